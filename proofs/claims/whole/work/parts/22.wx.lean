set_option maxHeartbeats 4000000 in
set_option maxRecDepth 100000 in
theorem c_X4_factorFor (l : Launch) (D : va_G) (cA : Nat → ClassId) (ad : Nat → Nat) (M : Mm) (x1 : Int32) {r : Int32} (hr : f_X4_factorFor x1 M = some r) : Met l yX4_factorFor wsX4_factorFor ({ frames := 1, cells := 0, slots := 0, locals := 30 }) (PcX D true cA ad M [.ref (ad 10), .int x1]) (QiX false D true cA ad r M) 0 0 (AX true ad) := by
  refine Met.ofW (cc := cX4_factorFor) (maxL := 9) (ret := (some .int)) (by decide) rfl ?_
  intro p e s m args below meth c s₁ B hml hv
  obtain ⟨hav, hP0, hK⟩ := hv
  have hx := B.exec
  have hb := B.bytes
  have hr0 := B.returns
  have hts := atoms_spec (ws := wsX4_factorFor) B.pre
  have hown : s.vm.findClass RX4 = some m.cls := findClass_of_methodNamed B.named
  have hlocks := B.notSynchronized
  have hW := xstart hP0
  have hi4 : ∀ w ∈ wsX40, w ∈ wsX4_factorFor := fun w h => List.mem_cons_of_mem _ (List.mem_append_right _ h)
  have hl := lv_entry ([.ref (ad 10), .int x1]) (n := 9) (Nat.le_of_ble_eq_true rfl)
  have hef := lg_entry_eq m ([.ref (ad 10), .int x1]) 9
  rw [← hav] at hef
  rw [hef]
  clear hef
  generalize (lg_sl ([.ref (ad 10), .int x1]) ++ List.replicate (9 - (lg_sl ([.ref (ad 10), .int x1])).length) Slot.unset).toArray = ls at hl ⊢
  have hl : lv_has ls 9 [(0, .ref (ad 10)), (1, .int x1)] := hl
  clear hP0
  unfold f_X4_factorFor at hr
  refine lv_iload_n hx hb dX4_factorFor_0 rfl (lv_at hl 1 rfl) ?_
  refine va_mabs hx hb (hml.trans hl.1.symm) hown (hts _ (wm 1 rfl)) (hts _ (wm 2 rfl)) (hts _ (wm 3 rfl)) (hts _ (wm 4 rfl)) (Nat.le_of_ble_eq_true rfl) (Nat.le_of_ble_eq_true rfl) (Nat.zero_le _) (Nat.zero_le _) dX4_factorFor_1 (show W p l e _ s m _ below meth c _ _ _ _ _ (F0 m _ _ (Value.int (jabs x1) :: _)) from ?_)
  obtain ⟨x2_1, ex2_1, hr⟩ := lt1_e hr
  rw [← ex2_1]
  refine lv_istore_n (lv' := [(2, .int x2_1), (0, .ref (ad 10)), (1, .int x1)]) hx hb dX4_factorFor_4 rfl hl (by decide) rfl (fun ls hl => ?_)
  refine lv_iconst (v := (0 : Int32)) hx hb dX4_factorFor_5 (by decide) ?_
  refine lv_istore_n (lv' := [(3, .int (0 : Int32)), (2, .int x2_1), (0, .ref (ad 10)), (1, .int x1)]) hx hb dX4_factorFor_6 rfl hl (by decide) rfl (fun ls hl => ?_)
  have hL7_1 : ∀ (n : Nat) (x3_2 : Int32) (H : Heap) (locs : List Loc) (ls : Array Slot) (x3_3 : Int32), Xw D true cA ad M (AX true ad) s.heap H locs → lv_has ls 9 [(2, .int x2_1), (0, .ref (ad 10)), (3, .int x3_2)] → f_X4_factorFor_L7 M x2_1 n x3_2 = some x3_3 → (∀ (H : Heap) (locs : List Loc) (ls : Array Slot), Xw D true cA ad M (AX true ad) s.heap H locs → lv_has ls 9 [(2, .int x2_1), (0, .ref (ad 10)), (3, .int x3_3)] → W p l e (headSpec wsX4_factorFor { frames := 1, cells := 0, slots := 0, locals := 30 }).room s m args below meth c H locs 0 0 (MQ below (QiX false D true cA ad r M) args s 0 0 (AX true ad)) (F0 m 37 ls [])) → W p l e (headSpec wsX4_factorFor { frames := 1, cells := 0, slots := 0, locals := 30 }).room s m args below meth c H locs 0 0 (MQ below (QiX false D true cA ad r M) args s 0 0 (AX true ad)) (F0 m 7 ls []) := by
    intro n
    induction n with
    | zero =>
      intro x3_2 H locs ls x3_3 hW hl hr hk
      exact absurd hr (by simp [f_X4_factorFor_L7])
    | succ n ih =>
      intro x3_2 H locs ls x3_3 hW hl hr hk
      rw [f_X4_factorFor_L7] at hr
      refine lv_iload_n hx hb dX4_factorFor_7 rfl (lv_at hl 2 rfl) ?_
      refine lv_bipush (v := (6 : Int32)) hx hb dX4_factorFor_8 (by decide) ?_
      refine lv_icmp_ge (tgt := 37) hx hb dX4_factorFor_10 (by decide) (fun c1 => ?_) (fun c1 => ?_)
      · have hr := br_p c1 hr
        have e1 := Option.some.inj hr
        subst e1
        exact hk _ _ _ hW (lv_sub hl [0, 1, 2] rfl)
      · have hr := br_n c1 hr
        refine lv_iload_n hx hb dX4_factorFor_13 rfl (lv_at hl 2 rfl) ?_
        refine lv_aload_n hx hb dX4_factorFor_14 rfl (lv_at hl 1 rfl) ?_
        refine g4_2 hx hb hts hi4 hown hK hW (k := 10) rfl (hts _ (wm 5 rfl)) dX4_factorFor_15 ?_
        refine lv_icmp_ge (tgt := 37) hx hb dX4_factorFor_18 (by decide) (fun c1 => ?_) (fun c1 => ?_)
        · have hr := br_p c1 hr
          have e1 := Option.some.inj hr
          subst e1
          exact hk _ _ _ hW (lv_sub hl [0, 1, 2] rfl)
        · have hr := br_n c1 hr
          refine lv_aload_n hx hb dX4_factorFor_21 rfl (lv_at hl 1 rfl) ?_
          refine g4_0 hx hb hts hi4 hown hK hW (k := 10) rfl (hts _ (wm 6 rfl)) dX4_factorFor_22 ?_
          refine lv_iload_n hx hb dX4_factorFor_25 rfl (lv_at hl 2 rfl) ?_
          obtain ⟨hn26, hr⟩ := chk_e hr
          refine xiald hx hb hK hW (k := 11) (t := 22) rfl (by decide) (by decide) rfl (n := 6) hn26 (jx := (ix x3_2)) rfl dX4_factorFor_26 ?_
          refine lv_iload_n hx hb dX4_factorFor_27 rfl (lv_at hl 0 rfl) ?_
          refine lv_icmp_ge (tgt := 37) hx hb dX4_factorFor_28 (by decide) (fun c1 => ?_) (fun c1 => ?_)
          · have hr := br_p c1 hr
            have e1 := Option.some.inj hr
            subst e1
            exact hk _ _ _ hW (lv_sub hl [0, 1, 2] rfl)
          · have hr := br_n c1 hr
            obtain ⟨x3_4, ex3_4, hr⟩ := lt1_e hr
            refine lv_iinc (v := x3_4) (lv' := [(3, .int x3_4), (2, .int x2_1), (0, .ref (ad 10))]) hx hb dX4_factorFor_31 hl (k := 2) rfl (by rw [ex3_4]; rfl) (by decide) rfl (fun ls hl => ?_)
            refine lv_goto (tgt := 7) hx hb dX4_factorFor_34 (by decide) ?_
            exact ih x3_4 _ _ _ _ hW (lv_sub hl [1, 2, 0] rfl) hr hk
  obtain ⟨x3_3, hr, hr3⟩ := ob1_e hr
  refine hL7_1 1000 (0 : Int32) _ _ _ x3_3 hW (lv_sub hl [1, 2, 0] rfl) hr (fun H locs ls hW hl => ?_)
  clear hr
  have hr := hr3
  refine lv_aload_n hx hb dX4_factorFor_37 rfl (lv_at hl 1 rfl) ?_
  refine g4_2 hx hb hts hi4 hown hK hW (k := 10) rfl (hts _ (wm 5 rfl)) dX4_factorFor_38 ?_
  refine lv_if_ne (tgt := 48) hx hb dX4_factorFor_41 (by decide) (fun c1 => ?_) (fun c1 => ?_)
  · have hr := br_n c1 hr
    refine lv_iload_n hx hb dX4_factorFor_48 rfl (lv_at hl 2 rfl) ?_
    refine lv_if_ne (tgt := 59) hx hb dX4_factorFor_49 (by decide) (fun c1 => ?_) (fun c1 => ?_)
    · have hr := br_n c1 hr
      refine lv_iload_n hx hb dX4_factorFor_59 rfl (lv_at hl 2 rfl) ?_
      refine lv_iconst (v := (1 : Int32)) hx hb dX4_factorFor_60 (by decide) ?_
      refine lv_isub hx hb dX4_factorFor_61 ?_
      obtain ⟨x4_5, ex4_5, hr⟩ := lt1_e hr
      rw [← ex4_5]
      refine lv_istore (lv' := [(4, .int x4_5), (2, .int x2_1), (0, .ref (ad 10)), (3, .int x3_3)]) hx hb dX4_factorFor_62 hl (by decide) rfl (fun ls hl => ?_)
      refine lv_iload_n hx hb dX4_factorFor_64 rfl (lv_at hl 3 rfl) ?_
      refine lv_bipush (v := (6 : Int32)) hx hb dX4_factorFor_65 (by decide) ?_
      refine lv_icmp_ge (tgt := 78) hx hb dX4_factorFor_67 (by decide) (fun c1 => ?_) (fun c1 => ?_)
      · have hr := br_p c1 hr
        refine lv_aload_n hx hb dX4_factorFor_78 rfl (lv_at hl 2 rfl) ?_
        refine g4_1 hx hb hts hi4 hown hK hW (k := 10) rfl (hts _ (wm 7 rfl)) dX4_factorFor_79 ?_
        refine lv_iload hx hb dX4_factorFor_82 (lv_at hl 0 rfl) ?_
        obtain ⟨hn84, hr⟩ := chk_e hr
        refine xiald hx hb hK hW (k := 12) (t := 22) rfl (by decide) (by decide) rfl (n := 6) hn84 (jx := (ix x4_5)) rfl dX4_factorFor_84 ?_
        rw [← Option.some.inj hr]
        exact xiret hx hb hr0 hlocks hW adR_rf dX4_factorFor_85
      · have hr := br_n c1 hr
        refine lv_iload_n hx hb dX4_factorFor_70 rfl (lv_at hl 3 rfl) ?_
        refine lv_aload_n hx hb dX4_factorFor_71 rfl (lv_at hl 2 rfl) ?_
        refine g4_2 hx hb hts hi4 hown hK hW (k := 10) rfl (hts _ (wm 5 rfl)) dX4_factorFor_72 ?_
        refine lv_icmp_lt (tgt := 86) hx hb dX4_factorFor_75 (by decide) (fun c1 => ?_) (fun c1 => ?_)
        · have hr := br_p c1 hr
          refine lv_aload_n hx hb dX4_factorFor_86 rfl (lv_at hl 2 rfl) ?_
          refine g4_0 hx hb hts hi4 hown hK hW (k := 10) rfl (hts _ (wm 6 rfl)) dX4_factorFor_87 ?_
          refine lv_iload hx hb dX4_factorFor_90 (lv_at hl 0 rfl) ?_
          obtain ⟨hn92, hr⟩ := chk_e hr
          refine xiald hx hb hK hW (k := 11) (t := 22) rfl (by decide) (by decide) rfl (n := 6) hn92 (jx := (ix x4_5)) rfl dX4_factorFor_92 ?_
          refine lv_i2l hx hb dX4_factorFor_93 rfl ?_
          obtain ⟨x5_6, ex5_6, hr⟩ := lt1_e hr
          rw [← ex5_6]
          refine lv_lstore (lv' := [(5, .long x5_6), (4, .int x4_5), (2, .int x2_1), (0, .ref (ad 10)), (3, .int x3_3)]) hx hb dX4_factorFor_94 hl (by decide) rfl (fun ls hl => ?_)
          refine lv_aload_n hx hb dX4_factorFor_96 rfl (lv_at hl 3 rfl) ?_
          refine g4_0 hx hb hts hi4 hown hK hW (k := 10) rfl (hts _ (wm 6 rfl)) dX4_factorFor_97 ?_
          refine lv_iload_n hx hb dX4_factorFor_100 rfl (lv_at hl 4 rfl) ?_
          obtain ⟨hn101, hr⟩ := chk_e hr
          refine xiald hx hb hK hW (k := 11) (t := 22) rfl (by decide) (by decide) rfl (n := 6) hn101 (jx := (ix x3_3)) rfl dX4_factorFor_101 ?_
          refine lv_i2l hx hb dX4_factorFor_102 rfl ?_
          obtain ⟨x7_7, ex7_7, hr⟩ := lt1_e hr
          rw [← ex7_7]
          refine lv_lstore (lv' := [(7, .long x7_7), (5, .long x5_6), (4, .int x4_5), (2, .int x2_1), (0, .ref (ad 10)), (3, .int x3_3)]) hx hb dX4_factorFor_103 hl (by decide) rfl (fun ls hl => ?_)
          refine lv_aload_n hx hb dX4_factorFor_105 rfl (lv_at hl 4 rfl) ?_
          refine g4_1 hx hb hts hi4 hown hK hW (k := 10) rfl (hts _ (wm 7 rfl)) dX4_factorFor_106 ?_
          refine lv_iload hx hb dX4_factorFor_109 (lv_at hl 2 rfl) ?_
          obtain ⟨hn111, hr⟩ := chk_e hr
          refine xiald hx hb hK hW (k := 12) (t := 22) rfl (by decide) (by decide) rfl (n := 6) hn111 (jx := (ix x4_5)) rfl dX4_factorFor_111 ?_
          refine lv_i2l hx hb dX4_factorFor_112 rfl ?_
          refine lv_lload hx hb dX4_factorFor_113 (lv_at hl 0 rfl) ?_
          refine lv_iload_n hx hb dX4_factorFor_115 rfl (lv_at hl 3 rfl) ?_
          refine lv_i2l hx hb dX4_factorFor_116 rfl ?_
          refine lv_lsub hx hb dX4_factorFor_117 ?_
          refine lv_lmul hx hb dX4_factorFor_118 ?_
          refine lv_aload_n hx hb dX4_factorFor_119 rfl (lv_at hl 4 rfl) ?_
          refine g4_1 hx hb hts hi4 hown hK hW (k := 10) rfl (hts _ (wm 7 rfl)) dX4_factorFor_120 ?_
          refine lv_iload_n hx hb dX4_factorFor_123 rfl (lv_at hl 5 rfl) ?_
          obtain ⟨hn124, hr⟩ := chk_e hr
          refine xiald hx hb hK hW (k := 12) (t := 22) rfl (by decide) (by decide) rfl (n := 6) hn124 (jx := (ix x3_3)) rfl dX4_factorFor_124 ?_
          refine lv_i2l hx hb dX4_factorFor_125 rfl ?_
          refine lv_iload_n hx hb dX4_factorFor_126 rfl (lv_at hl 3 rfl) ?_
          refine lv_i2l hx hb dX4_factorFor_127 rfl ?_
          refine lv_lload hx hb dX4_factorFor_128 (lv_at hl 1 rfl) ?_
          refine lv_lsub hx hb dX4_factorFor_130 ?_
          refine lv_lmul hx hb dX4_factorFor_131 ?_
          refine lv_ladd hx hb dX4_factorFor_132 ?_
          refine lv_lload hx hb dX4_factorFor_133 (lv_at hl 0 rfl) ?_
          refine lv_lload hx hb dX4_factorFor_135 (lv_at hl 1 rfl) ?_
          refine lv_lsub hx hb dX4_factorFor_137 ?_
          obtain ⟨r_8, hc138, hr⟩ := ob1_e hr
          refine xk_l (va_runSN (As := [.long (((Int32.toInt64 (gI M 12 (ix x4_5))) * (x7_7 - (Int32.toInt64 x2_1))) + ((Int32.toInt64 (gI M 12 (ix x3_3))) * ((Int32.toInt64 x2_1) - x5_6))), .long (x7_7 - x5_6)]) (rest := []) ⟨hx, hb, hml, hown, hts⟩ (c_X10_quotient l D cA ad M (((Int32.toInt64 (gI M 12 (ix x4_5))) * (x7_7 - (Int32.toInt64 x2_1))) + ((Int32.toInt64 (gI M 12 (ix x3_3))) * ((Int32.toInt64 x2_1) - x5_6))) (x7_7 - x5_6) hc138) ⟨va_cnB 2 hts gX4_factorFor_X10_quotient_n38 rfl rfl rfl hK.2.2.2.2.2.2.2.2.2.2.2.2.2.2.2.1 (hts _ (wm 9 rfl)) (by decide +kernel) ⟨Nat.le_of_ble_eq_true rfl, Nat.le_of_ble_eq_true rfl⟩, (hts _ (wm 8 rfl)), trivial⟩ (xpreS hK hW) rfl rfl hl.1 rfl (lv_room (Nat.le_of_ble_eq_true rfl)) dX4_factorFor_138 ⟨Nat.le_of_ble_eq_true rfl, Nat.le_of_ble_eq_true rfl⟩) hW (fun H locs hW => ?_)
          refine lv_l2i hx hb dX4_factorFor_141 rfl ?_
          rw [← Option.some.inj hr]
          exact xiret hx hb hr0 hlocks hW adR_rf dX4_factorFor_142
        · have hr := br_n c1 hr
          refine lv_aload_n hx hb dX4_factorFor_78 rfl (lv_at hl 2 rfl) ?_
          refine g4_1 hx hb hts hi4 hown hK hW (k := 10) rfl (hts _ (wm 7 rfl)) dX4_factorFor_79 ?_
          refine lv_iload hx hb dX4_factorFor_82 (lv_at hl 0 rfl) ?_
          obtain ⟨hn84, hr⟩ := chk_e hr
          refine xiald hx hb hK hW (k := 12) (t := 22) rfl (by decide) (by decide) rfl (n := 6) hn84 (jx := (ix x4_5)) rfl dX4_factorFor_84 ?_
          rw [← Option.some.inj hr]
          exact xiret hx hb hr0 hlocks hW adR_rf dX4_factorFor_85
    · have hr := br_p c1 hr
      refine lv_aload_n hx hb dX4_factorFor_52 rfl (lv_at hl 1 rfl) ?_
      refine g4_1 hx hb hts hi4 hown hK hW (k := 10) rfl (hts _ (wm 7 rfl)) dX4_factorFor_53 ?_
      refine lv_iconst (v := (0 : Int32)) hx hb dX4_factorFor_56 (by decide) ?_
      refine xiald hx hb hK hW (k := 12) (t := 22) rfl (by decide) (by decide) rfl (n := 6) (by decide) (jx := 0) (by decide) dX4_factorFor_57 ?_
      rw [← Option.some.inj hr]
      exact xiret hx hb hr0 hlocks hW adR_rf dX4_factorFor_58
  · have hr := br_p c1 hr
    refine lv_sipush (v := (1000 : Int32)) hx hb dX4_factorFor_44 (by decide) ?_
    rw [← Option.some.inj hr]
    exact xiret hx hb hr0 hlocks hW adR_rf dX4_factorFor_47

set_option maxHeartbeats 4000000 in
set_option maxRecDepth 100000 in
theorem c_X2_averageVelocities (l : Launch) (D : va_G) (cA : Nat → ClassId) (ad : Nat → Nat) (M : Mm) {M' : Mm} (hr : f_X2_averageVelocities M = some M') : Met l yX2_averageVelocities wsX2_averageVelocities ({ frames := 2, cells := 0, slots := 0, locals := 58 }) (PcX D true cA ad M [.ref (ad 232), .ref (ad 0)]) (QvX false D true cA ad M') 0 0 (AX true ad) := by
  refine Met.ofW (cc := cX2_averageVelocities) (maxL := 2) (ret := none) (by decide) rfl ?_
  intro p e s m args below meth c s₁ B hml hv
  obtain ⟨hav, hP0, hK⟩ := hv
  have hx := B.exec
  have hb := B.bytes
  have hr0 := B.returns
  have hts := atoms_spec (ws := wsX2_averageVelocities) B.pre
  have hown : s.vm.findClass RX2 = some m.cls := findClass_of_methodNamed B.named
  have hlocks := B.notSynchronized
  have hW := xstart hP0
  have hi2 : ∀ w ∈ wsX20, w ∈ wsX2_averageVelocities := fun w h => List.mem_cons_of_mem _ (List.mem_append_left _ (List.mem_append_left _ (List.mem_append_left _ (List.mem_append_right _ h))))
  have hi8 : ∀ w ∈ wsX80, w ∈ wsX2_averageVelocities := fun w h => List.mem_cons_of_mem _ (List.mem_append_left _ (List.mem_append_left _ (List.mem_append_right _ h)))
  have hl := lv_entry ([.ref (ad 232), .ref (ad 0)]) (n := 2) (Nat.le_of_ble_eq_true rfl)
  have hef := lg_entry_eq m ([.ref (ad 232), .ref (ad 0)]) 2
  rw [← hav] at hef
  rw [hef]
  clear hef
  generalize (lg_sl ([.ref (ad 232), .ref (ad 0)]) ++ List.replicate (2 - (lg_sl ([.ref (ad 232), .ref (ad 0)])).length) Slot.unset).toArray = ls at hl ⊢
  have hl : lv_has ls 2 [(0, .ref (ad 232)), (1, .ref (ad 0))] := hl
  clear hP0
  unfold f_X2_averageVelocities at hr
  refine lv_aload_n hx hb dX2_averageVelocities_0 rfl (lv_at hl 0 rfl) ?_
  refine lv_iconst (v := (0 : Int32)) hx hb dX2_averageVelocities_1 (by decide) ?_
  obtain ⟨M_1, eM_1, hr⟩ := lt1_e hr
  refine p2_8 hx hb hts hi2 hown hK hW (k := 232) rfl (hts _ (wm 1 rfl)) dX2_averageVelocities_2 (fun H locs hW => ?_)
  rw [← eM_1] at hW
  refine lv_aload_n hx hb dX2_averageVelocities_5 rfl (lv_at hl 0 rfl) ?_
  refine lv_ldc (v := (-2000000005 : Int32)) hx hb hown (hts _ (wm 2 rfl)) dX2_averageVelocities_6 ?_
  obtain ⟨M_2, eM_2, hr⟩ := lt1_e hr
  refine p2_9 hx hb hts hi2 hown hK hW (k := 232) rfl (hts _ (wm 3 rfl)) dX2_averageVelocities_8 (fun H locs hW => ?_)
  rw [← eM_2] at hW
  refine lv_aload_n hx hb dX2_averageVelocities_11 rfl (lv_at hl 0 rfl) ?_
  refine lv_ldc (v := (-2000000005 : Int32)) hx hb hown (hts _ (wm 2 rfl)) dX2_averageVelocities_12 ?_
  obtain ⟨M_3, eM_3, hr⟩ := lt1_e hr
  refine p2_10 hx hb hts hi2 hown hK hW (k := 232) rfl (hts _ (wm 4 rfl)) dX2_averageVelocities_14 (fun H locs hW => ?_)
  rw [← eM_3] at hW
  refine lv_aload_n hx hb dX2_averageVelocities_17 rfl (lv_at hl 0 rfl) ?_
  refine g2_6 hx hb hts hi2 hown hK hW (k := 232) rfl (hts _ (wm 5 rfl)) dX2_averageVelocities_18 ?_
  refine lv_if_eq (tgt := 83) hx hb dX2_averageVelocities_21 (by decide) (fun c1 => ?_) (fun c1 => ?_)
  · have hr := br_p c1 hr
    rw [← Option.some.inj hr]
    exact xvret hx hb hr0 hlocks hW adR_rf dX2_averageVelocities_83
  · have hr := br_n c1 hr
    refine lv_aload_n hx hb dX2_averageVelocities_24 rfl (lv_at hl 0 rfl) ?_
    refine lv_aload_n hx hb dX2_averageVelocities_25 rfl (lv_at hl 1 rfl) ?_
    refine lv_aload_n hx hb dX2_averageVelocities_26 rfl (lv_at hl 0 rfl) ?_
    refine lv_aload_n hx hb dX2_averageVelocities_27 rfl (lv_at hl 1 rfl) ?_
    refine lv_aload_n hx hb dX2_averageVelocities_28 rfl (lv_at hl 0 rfl) ?_
    refine g2_6 hx hb hts hi2 hown hK hW (k := 232) rfl (hts _ (wm 5 rfl)) dX2_averageVelocities_29 ?_
    obtain ⟨r_4, hc32, hr⟩ := ob1_e hr
    refine xk_i (va_runV (As := [.ref (ad 0), .int (gI M_3 232 6)]) (rest := [.ref (ad 0), .ref (ad 232)]) ⟨hx, hb, hml, hown, hts⟩ (c_X2_weightedMean l D cA ad M_3 (gI M_3 232 6) hc32) (cwV 2 hts gX2_averageVelocities_X2_weightedMean rfl rfl rfl (by decide +kernel) ⟨Nat.le_of_ble_eq_true rfl, Nat.le_of_ble_eq_true rfl⟩) (xpreV hK hW (k := 232) rfl (by decide) rfl) rfl rfl hl.1 rfl (lv_room (Nat.le_of_ble_eq_true rfl)) dX2_averageVelocities_32 ⟨Nat.le_of_ble_eq_true rfl, Nat.le_of_ble_eq_true rfl⟩) hW (fun H locs hW => ?_)
    obtain ⟨M_5, hc35, hr⟩ := ob1_e hr
    refine xk_v (va_runV (As := [.ref (ad 0), .int r_4]) (rest := []) ⟨hx, hb, hml, hown, hts⟩ (c_X2_substituteFrom l D cA ad M_3 r_4 hc35) (cwV 2 hts gX2_averageVelocities_X2_substituteFrom rfl rfl rfl (by decide +kernel) ⟨Nat.le_of_ble_eq_true rfl, Nat.le_of_ble_eq_true rfl⟩) (xpreV hK hW (k := 232) rfl (by decide) rfl) rfl rfl hl.1 rfl (lv_room (Nat.le_of_ble_eq_true rfl)) dX2_averageVelocities_35 ⟨Nat.le_of_ble_eq_true rfl, Nat.le_of_ble_eq_true rfl⟩) hW (fun H locs hW => ?_)
    refine lv_aload_n hx hb dX2_averageVelocities_38 rfl (lv_at hl 0 rfl) ?_
    refine lv_aload_n hx hb dX2_averageVelocities_39 rfl (lv_at hl 0 rfl) ?_
    refine lv_aload_n hx hb dX2_averageVelocities_40 rfl (lv_at hl 1 rfl) ?_
    refine lv_aload_n hx hb dX2_averageVelocities_41 rfl (lv_at hl 0 rfl) ?_
    refine g2_6 hx hb hts hi2 hown hK hW (k := 232) rfl (hts _ (wm 5 rfl)) dX2_averageVelocities_42 ?_
    refine lv_aload_n hx hb dX2_averageVelocities_45 rfl (lv_at hl 0 rfl) ?_
    refine g2_8 hx hb hts hi2 hown hK hW (k := 232) rfl (hts _ (wm 1 rfl)) dX2_averageVelocities_46 ?_
    refine lv_ior hx hb dX2_averageVelocities_49 ?_
    obtain ⟨r_6, hc50, hr⟩ := ob1_e hr
    refine xk_i (va_runV (As := [.ref (ad 0), .int ((gI M_5 232 6) ||| (gI M_5 232 8))]) (rest := [.ref (ad 232)]) ⟨hx, hb, hml, hown, hts⟩ (c_X2_weightedMean l D cA ad M_5 ((gI M_5 232 6) ||| (gI M_5 232 8)) hc50) (cwV 2 hts gX2_averageVelocities_X2_weightedMean rfl rfl rfl (by decide +kernel) ⟨Nat.le_of_ble_eq_true rfl, Nat.le_of_ble_eq_true rfl⟩) (xpreV hK hW (k := 232) rfl (by decide) rfl) rfl rfl hl.1 rfl (lv_room (Nat.le_of_ble_eq_true rfl)) dX2_averageVelocities_50 ⟨Nat.le_of_ble_eq_true rfl, Nat.le_of_ble_eq_true rfl⟩) hW (fun H locs hW => ?_)
    obtain ⟨M_7, eM_7, hr⟩ := lt1_e hr
    refine p2_9 hx hb hts hi2 hown hK hW (k := 232) rfl (hts _ (wm 3 rfl)) dX2_averageVelocities_53 (fun H locs hW => ?_)
    rw [← eM_7] at hW
    refine lv_aload_n hx hb dX2_averageVelocities_56 rfl (lv_at hl 0 rfl) ?_
    refine lv_aload_n hx hb dX2_averageVelocities_57 rfl (lv_at hl 0 rfl) ?_
    refine g2_9 hx hb hts hi2 hown hK hW (k := 232) rfl (hts _ (wm 3 rfl)) dX2_averageVelocities_58 ?_
    refine lv_i2l hx hb dX2_averageVelocities_61 rfl ?_
    refine lv_aload_n hx hb dX2_averageVelocities_62 rfl (lv_at hl 1 rfl) ?_
    refine g8_2 hx hb hts hi8 hown hK hW (k := 0) rfl (hts _ (wm 6 rfl)) dX2_averageVelocities_63 ?_
    refine lv_aload_n hx hb dX2_averageVelocities_66 rfl (lv_at hl 0 rfl) ?_
    refine g2_9 hx hb hts hi2 hown hK hW (k := 232) rfl (hts _ (wm 3 rfl)) dX2_averageVelocities_67 ?_
    obtain ⟨r_8, hc70, hr⟩ := ob1_e hr
    refine xk_i (va_runV (As := [.int (gI M_7 232 9)]) (rest := [.long (Int32.toInt64 (gI M_7 232 9)), .ref (ad 232)]) ⟨hx, hb, hml, hown, hts⟩ (c_X4_factorFor l D cA ad M_7 (gI M_7 232 9) hc70) (cwV 1 hts gX2_averageVelocities_X4_factorFor rfl rfl rfl (by decide +kernel) ⟨Nat.le_of_ble_eq_true rfl, Nat.le_of_ble_eq_true rfl⟩) (xpreV hK hW (k := 10) rfl (by decide) rfl) rfl rfl hl.1 rfl (lv_room (Nat.le_of_ble_eq_true rfl)) dX2_averageVelocities_70 ⟨Nat.le_of_ble_eq_true rfl, Nat.le_of_ble_eq_true rfl⟩) hW (fun H locs hW => ?_)
    refine lv_i2l hx hb dX2_averageVelocities_73 rfl ?_
    refine lv_lmul hx hb dX2_averageVelocities_74 ?_
    refine lv_ldc2 (v := (1000 : Int64)) hx hb hown (hts _ (wm 7 rfl)) dX2_averageVelocities_75 ?_
    refine lv_ldiv hx hb dX2_averageVelocities_78 (by decide) ?_
    refine lv_l2i hx hb dX2_averageVelocities_79 rfl ?_
    obtain ⟨M_9, eM_9, hr⟩ := lt1_e hr
    refine p2_10 hx hb hts hi2 hown hK hW (k := 232) rfl (hts _ (wm 4 rfl)) dX2_averageVelocities_80 (fun H locs hW => ?_)
    rw [← eM_9] at hW
    rw [← Option.some.inj hr]
    exact xvret hx hb hr0 hlocks hW adR_rf dX2_averageVelocities_83

set_option maxHeartbeats 4000000 in
set_option maxRecDepth 100000 in
theorem c_X2_judge (l : Launch) (D : va_G) (cA : Nat → ClassId) (ad : Nat → Nat) (M : Mm) (x2 : Int32) {M' : Mm} (hr : f_X2_judge x2 M = some M') : Met l yX2_judge wsX2_judge ({ frames := 3, cells := 0, slots := 0, locals := 79 }) (PcX D true cA ad M [.ref (ad 232), .ref (ad 0), .int x2]) (QvX false D true cA ad M') 0 0 (AX true ad) := by
  refine Met.ofW (cc := cX2_judge) (maxL := 3) (ret := none) (by decide) rfl ?_
  intro p e s m args below meth c s₁ B hml hv
  obtain ⟨hav, hP0, hK⟩ := hv
  have hx := B.exec
  have hb := B.bytes
  have hr0 := B.returns
  have hts := atoms_spec (ws := wsX2_judge) B.pre
  have hown : s.vm.findClass RX2 = some m.cls := findClass_of_methodNamed B.named
  have hlocks := B.notSynchronized
  have hW := xstart hP0
  have hi2 : ∀ w ∈ wsX20, w ∈ wsX2_judge := fun w h => List.mem_cons_of_mem _ (List.mem_append_left _ (List.mem_append_left _ (List.mem_append_left _ (List.mem_append_left _ (List.mem_append_right _ h)))))
  have hl := lv_entry ([.ref (ad 232), .ref (ad 0), .int x2]) (n := 3) (Nat.le_of_ble_eq_true rfl)
  have hef := lg_entry_eq m ([.ref (ad 232), .ref (ad 0), .int x2]) 3
  rw [← hav] at hef
  rw [hef]
  clear hef
  generalize (lg_sl ([.ref (ad 232), .ref (ad 0), .int x2]) ++ List.replicate (3 - (lg_sl ([.ref (ad 232), .ref (ad 0), .int x2])).length) Slot.unset).toArray = ls at hl ⊢
  have hl : lv_has ls 3 [(0, .ref (ad 232)), (1, .ref (ad 0)), (2, .int x2)] := hl
  clear hP0
  unfold f_X2_judge at hr
  refine lv_aload_n hx hb dX2_judge_0 rfl (lv_at hl 0 rfl) ?_
  refine lv_aload_n hx hb dX2_judge_1 rfl (lv_at hl 1 rfl) ?_
  obtain ⟨M_1, hc2, hr⟩ := ob1_e hr
  refine xk_v (va_runV (As := [.ref (ad 0)]) (rest := []) ⟨hx, hb, hml, hown, hts⟩ (c_X2_findShifts l D cA ad M hc2) (cwV 1 hts gX2_judge_X2_findShifts rfl rfl rfl (by decide +kernel) ⟨Nat.le_of_ble_eq_true rfl, Nat.le_of_ble_eq_true rfl⟩) (xpreV hK hW (k := 232) rfl (by decide) rfl) rfl rfl hl.1 rfl (lv_room (Nat.le_of_ble_eq_true rfl)) dX2_judge_2 ⟨Nat.le_of_ble_eq_true rfl, Nat.le_of_ble_eq_true rfl⟩) hW (fun H locs hW => ?_)
  refine lv_aload_n hx hb dX2_judge_5 rfl (lv_at hl 0 rfl) ?_
  refine lv_aload_n hx hb dX2_judge_6 rfl (lv_at hl 0 rfl) ?_
  refine lv_aload_n hx hb dX2_judge_7 rfl (lv_at hl 1 rfl) ?_
  refine lv_aload_n hx hb dX2_judge_8 rfl (lv_at hl 0 rfl) ?_
  refine g2_1 hx hb hts hi2 hown hK hW (k := 232) rfl (hts _ (wm 1 rfl)) dX2_judge_9 ?_
  obtain ⟨r_3, M_2, hc12, hr⟩ := ob2_e hr
  refine xk_i (va_runV (As := [.ref (ad 0), .ref (ad 234)]) (rest := [.ref (ad 232)]) ⟨hx, hb, hml, hown, hts⟩ (c_X2_clearTrueShifts l D cA ad M_1 234 (rfl : KS true 234 = 20) hc12) (cwV 2 hts gX2_judge_X2_clearTrueShifts rfl rfl rfl (by decide +kernel) ⟨Nat.le_of_ble_eq_true rfl, Nat.le_of_ble_eq_true rfl⟩) (xpreV hK hW (k := 232) rfl (by decide) rfl) rfl rfl hl.1 rfl (lv_room (Nat.le_of_ble_eq_true rfl)) dX2_judge_12 ⟨Nat.le_of_ble_eq_true rfl, Nat.le_of_ble_eq_true rfl⟩) hW (fun H locs hW => ?_)
  refine lv_aload_n hx hb dX2_judge_15 rfl (lv_at hl 0 rfl) ?_
  refine lv_aload_n hx hb dX2_judge_16 rfl (lv_at hl 1 rfl) ?_
  refine lv_aload_n hx hb dX2_judge_17 rfl (lv_at hl 0 rfl) ?_
  refine g2_2 hx hb hts hi2 hown hK hW (k := 232) rfl (hts _ (wm 2 rfl)) dX2_judge_18 ?_
  obtain ⟨r_5, M_4, hc21, hr⟩ := ob2_e hr
  refine xk_i (va_runV (As := [.ref (ad 0), .ref (ad 235)]) (rest := [.int r_3, .ref (ad 232)]) ⟨hx, hb, hml, hown, hts⟩ (c_X2_clearTrueShifts l D cA ad M_2 235 (rfl : KS true 235 = 20) hc21) (cwV 2 hts gX2_judge_X2_clearTrueShifts rfl rfl rfl (by decide +kernel) ⟨Nat.le_of_ble_eq_true rfl, Nat.le_of_ble_eq_true rfl⟩) (xpreV hK hW (k := 232) rfl (by decide) rfl) rfl rfl hl.1 rfl (lv_room (Nat.le_of_ble_eq_true rfl)) dX2_judge_21 ⟨Nat.le_of_ble_eq_true rfl, Nat.le_of_ble_eq_true rfl⟩) hW (fun H locs hW => ?_)
  refine lv_iadd hx hb dX2_judge_24 ?_
  obtain ⟨M_6, eM_6, hr⟩ := lt1_e hr
  refine p2_5 hx hb hts hi2 hown hK hW (k := 232) rfl (hts _ (wm 3 rfl)) dX2_judge_25 (fun H locs hW => ?_)
  rw [← eM_6] at hW
  refine lv_aload_n hx hb dX2_judge_28 rfl (lv_at hl 0 rfl) ?_
  refine lv_aload_n hx hb dX2_judge_29 rfl (lv_at hl 1 rfl) ?_
  refine lv_iload_n hx hb dX2_judge_30 rfl (lv_at hl 2 rfl) ?_
  obtain ⟨M_7, hc31, hr⟩ := ob1_e hr
  refine xk_v (va_runV (As := [.ref (ad 0), .int x2]) (rest := []) ⟨hx, hb, hml, hown, hts⟩ (c_X2_decideOutcomes l D cA ad M_6 x2 hc31) (cwV 2 hts gX2_judge_X2_decideOutcomes rfl rfl rfl (by decide +kernel) ⟨Nat.le_of_ble_eq_true rfl, Nat.le_of_ble_eq_true rfl⟩) (xpreV hK hW (k := 232) rfl (by decide) rfl) rfl rfl hl.1 rfl (lv_room (Nat.le_of_ble_eq_true rfl)) dX2_judge_31 ⟨Nat.le_of_ble_eq_true rfl, Nat.le_of_ble_eq_true rfl⟩) hW (fun H locs hW => ?_)
  refine lv_aload_n hx hb dX2_judge_34 rfl (lv_at hl 0 rfl) ?_
  refine lv_aload_n hx hb dX2_judge_35 rfl (lv_at hl 1 rfl) ?_
  obtain ⟨M_8, hc36, hr⟩ := ob1_e hr
  refine xk_v (va_runV (As := [.ref (ad 0)]) (rest := []) ⟨hx, hb, hml, hown, hts⟩ (c_X2_averageVelocities l D cA ad M_7 hc36) (cwV 1 hts gX2_judge_X2_averageVelocities rfl rfl rfl (by decide +kernel) ⟨Nat.le_of_ble_eq_true rfl, Nat.le_of_ble_eq_true rfl⟩) (xpreV hK hW (k := 232) rfl (by decide) rfl) rfl rfl hl.1 rfl (lv_room (Nat.le_of_ble_eq_true rfl)) dX2_judge_36 ⟨Nat.le_of_ble_eq_true rfl, Nat.le_of_ble_eq_true rfl⟩) hW (fun H locs hW => ?_)
  rw [← Option.some.inj hr]
  exact xvret hx hb hr0 hlocks hW adR_rf dX2_judge_39

set_option maxHeartbeats 4000000 in
set_option maxRecDepth 100000 in
theorem c_X2_outcomeOf (l : Launch) (D : va_G) (cA : Nat → ClassId) (ad : Nat → Nat) (M : Mm) (x1 : Int32) {r : Int32} (hr : f_X2_outcomeOf x1 M = some r) : Met l yX2_outcomeOf wsX2_outcomeOf ({ frames := 0, cells := 0, slots := 0, locals := 0 }) (PcX D true cA ad M [.ref (ad 232), .int x1]) (QiX false D true cA ad r M) 0 0 (AX true ad) := by
  refine Met.ofW (cc := cX2_outcomeOf) (maxL := 2) (ret := (some .int)) (by decide) rfl ?_
  intro p e s m args below meth c s₁ B hml hv
  obtain ⟨hav, hP0, hK⟩ := hv
  have hx := B.exec
  have hb := B.bytes
  have hr0 := B.returns
  have hts := atoms_spec (ws := wsX2_outcomeOf) B.pre
  have hown : s.vm.findClass RX2 = some m.cls := findClass_of_methodNamed B.named
  have hlocks := B.notSynchronized
  have hW := xstart hP0
  have hi2 : ∀ w ∈ wsX20, w ∈ wsX2_outcomeOf := fun w h => List.mem_cons_of_mem _ (List.mem_append_right _ h)
  have hl := lv_entry ([.ref (ad 232), .int x1]) (n := 2) (Nat.le_of_ble_eq_true rfl)
  have hef := lg_entry_eq m ([.ref (ad 232), .int x1]) 2
  rw [← hav] at hef
  rw [hef]
  clear hef
  generalize (lg_sl ([.ref (ad 232), .int x1]) ++ List.replicate (2 - (lg_sl ([.ref (ad 232), .int x1])).length) Slot.unset).toArray = ls at hl ⊢
  have hl : lv_has ls 2 [(0, .ref (ad 232)), (1, .int x1)] := hl
  clear hP0
  unfold f_X2_outcomeOf at hr
  refine lv_iload_n hx hb dX2_outcomeOf_0 rfl (lv_at hl 1 rfl) ?_
  refine lv_if_lt (tgt := 18) hx hb dX2_outcomeOf_1 (by decide) (fun c1 => ?_) (fun c1 => ?_)
  · have hr := br_p c1 hr
    refine lv_iconst (v := (0 : Int32)) hx hb dX2_outcomeOf_18 (by decide) ?_
    rw [← Option.some.inj hr]
    exact xiret hx hb hr0 hlocks hW adR_rf dX2_outcomeOf_19
  · have hr := br_n c1 hr
    refine lv_iload_n hx hb dX2_outcomeOf_4 rfl (lv_at hl 1 rfl) ?_
    refine lv_iconst (v := (4 : Int32)) hx hb dX2_outcomeOf_5 (by decide) ?_
    refine lv_icmp_ge (tgt := 18) hx hb dX2_outcomeOf_6 (by decide) (fun c1 => ?_) (fun c1 => ?_)
    · have hr := br_p c1 hr
      refine lv_iconst (v := (0 : Int32)) hx hb dX2_outcomeOf_18 (by decide) ?_
      rw [← Option.some.inj hr]
      exact xiret hx hb hr0 hlocks hW adR_rf dX2_outcomeOf_19
    · have hr := br_n c1 hr
      refine lv_aload_n hx hb dX2_outcomeOf_9 rfl (lv_at hl 0 rfl) ?_
      refine g2_3 hx hb hts hi2 hown hK hW (k := 232) rfl (hts _ (wm 1 rfl)) dX2_outcomeOf_10 ?_
      refine lv_iload_n hx hb dX2_outcomeOf_13 rfl (lv_at hl 1 rfl) ?_
      obtain ⟨hn14, hr⟩ := chk_e hr
      refine xiald hx hb hK hW (k := 236) (t := 20) rfl (by decide) (by decide) rfl (n := 4) hn14 (jx := (ix x1)) rfl dX2_outcomeOf_14 ?_
      refine lv_goto (tgt := 19) hx hb dX2_outcomeOf_15 (by decide) ?_
      rw [← Option.some.inj hr]
      exact xiret hx hb hr0 hlocks hW adR_rf dX2_outcomeOf_19

set_option maxHeartbeats 4000000 in
set_option maxRecDepth 100000 in
theorem c_X2_hasOutlier (l : Launch) (D : va_G) (cA : Nat → ClassId) (ad : Nat → Nat) (M : Mm) {r : Int32} (hr : f_X2_hasOutlier M = some r) : Met l yX2_hasOutlier wsX2_hasOutlier ({ frames := 0, cells := 0, slots := 0, locals := 0 }) (PcX D true cA ad M [.ref (ad 232)]) (QiX false D true cA ad r M) 0 0 (AX true ad) := by
  refine Met.ofW (cc := cX2_hasOutlier) (maxL := 5) (ret := (some .boolean)) (by decide) rfl ?_
  intro p e s m args below meth c s₁ B hml hv
  obtain ⟨hav, hP0, hK⟩ := hv
  have hx := B.exec
  have hb := B.bytes
  have hr0 := B.returns
  have hts := atoms_spec (ws := wsX2_hasOutlier) B.pre
  have hown : s.vm.findClass RX2 = some m.cls := findClass_of_methodNamed B.named
  have hlocks := B.notSynchronized
  have hW := xstart hP0
  have hi2 : ∀ w ∈ wsX20, w ∈ wsX2_hasOutlier := fun w h => List.mem_cons_of_mem _ (List.mem_append_right _ h)
  have hl := lv_entry ([.ref (ad 232)]) (n := 5) (Nat.le_of_ble_eq_true rfl)
  have hef := lg_entry_eq m ([.ref (ad 232)]) 5
  rw [← hav] at hef
  rw [hef]
  clear hef
  generalize (lg_sl ([.ref (ad 232)]) ++ List.replicate (5 - (lg_sl ([.ref (ad 232)])).length) Slot.unset).toArray = ls at hl ⊢
  have hl : lv_has ls 5 [(0, .ref (ad 232))] := hl
  clear hP0
  unfold f_X2_hasOutlier at hr
  refine lv_aload_n hx hb dX2_hasOutlier_0 rfl (lv_at hl 0 rfl) ?_
  refine g2_3 hx hb hts hi2 hown hK hW (k := 232) rfl (hts _ (wm 1 rfl)) dX2_hasOutlier_1 ?_
  refine lv_astore_n (lv' := [(1, .ref (ad 236)), (0, .ref (ad 232))]) hx hb dX2_hasOutlier_4 rfl hl (by decide) rfl (fun ls hl => ?_)
  refine lv_aload_n hx hb dX2_hasOutlier_5 rfl (lv_at hl 0 rfl) ?_
  refine xalen hx hb hK hW (k := 236) (t := 20) rfl (by decide) (by decide) (v := (4 : Int32)) rfl dX2_hasOutlier_6 ?_
  refine lv_istore_n (lv' := [(2, .int (4 : Int32)), (1, .ref (ad 236)), (0, .ref (ad 232))]) hx hb dX2_hasOutlier_7 rfl hl (by decide) rfl (fun ls hl => ?_)
  refine lv_iconst (v := (0 : Int32)) hx hb dX2_hasOutlier_8 (by decide) ?_
  refine lv_istore_n (lv' := [(3, .int (0 : Int32)), (2, .int (4 : Int32)), (1, .ref (ad 236)), (0, .ref (ad 232))]) hx hb dX2_hasOutlier_9 rfl hl (by decide) rfl (fun ls hl => ?_)
  have hL10_1 : ∀ (n : Nat) (x3_1 : Int32) (H : Heap) (locs : List Loc) (ls : Array Slot), Xw D true cA ad M (AX true ad) s.heap H locs → lv_has ls 5 [(2, .int (4 : Int32)), (1, .ref (ad 236)), (3, .int x3_1)] → f_X2_hasOutlier_L10 M n x3_1 = some r → W p l e (headSpec wsX2_hasOutlier { frames := 0, cells := 0, slots := 0, locals := 0 }).room s m args below meth c H locs 0 0 (MQ below (QiX false D true cA ad r M) args s 0 0 (AX true ad)) (F0 m 10 ls []) := by
    intro n
    induction n with
    | zero =>
      intro x3_1 H locs ls hW hl hr
      exact absurd hr (by simp [f_X2_hasOutlier_L10])
    | succ n ih =>
      intro x3_1 H locs ls hW hl hr
      rw [f_X2_hasOutlier_L10] at hr
      refine lv_iload_n hx hb dX2_hasOutlier_10 rfl (lv_at hl 2 rfl) ?_
      refine lv_iload_n hx hb dX2_hasOutlier_11 rfl (lv_at hl 0 rfl) ?_
      refine lv_icmp_ge (tgt := 34) hx hb dX2_hasOutlier_12 (by decide) (fun c1 => ?_) (fun c1 => ?_)
      · have hr := br_p c1 hr
        refine lv_iconst (v := (0 : Int32)) hx hb dX2_hasOutlier_34 (by decide) ?_
        rw [← Option.some.inj hr]
        exact xzret hx hb hr0 hlocks hW adR_rf (by decide) dX2_hasOutlier_35
      · have hr := br_n c1 hr
        refine lv_aload_n hx hb dX2_hasOutlier_15 rfl (lv_at hl 1 rfl) ?_
        refine lv_iload_n hx hb dX2_hasOutlier_16 rfl (lv_at hl 2 rfl) ?_
        obtain ⟨hn17, hr⟩ := chk_e hr
        refine xiald hx hb hK hW (k := 236) (t := 20) rfl (by decide) (by decide) rfl (n := 4) hn17 (jx := (ix x3_1)) rfl dX2_hasOutlier_17 ?_
        obtain ⟨x4_2, ex4_2, hr⟩ := lt1_e hr
        rw [← ex4_2]
        refine lv_istore (lv' := [(4, .int x4_2), (2, .int (4 : Int32)), (1, .ref (ad 236)), (3, .int x3_1)]) hx hb dX2_hasOutlier_18 hl (by decide) rfl (fun ls hl => ?_)
        refine lv_iload hx hb dX2_hasOutlier_20 (lv_at hl 0 rfl) ?_
        refine lv_iconst (v := (2 : Int32)) hx hb dX2_hasOutlier_22 (by decide) ?_
        refine lv_icmp_ne (tgt := 28) hx hb dX2_hasOutlier_23 (by decide) (fun c1 => ?_) (fun c1 => ?_)
        · have hr := br_n c1 hr
          obtain ⟨x3_3, ex3_3, hr⟩ := lt1_e hr
          refine lv_iinc (v := x3_3) (lv' := [(3, .int x3_3), (4, .int x4_2), (2, .int (4 : Int32)), (1, .ref (ad 236))]) hx hb dX2_hasOutlier_28 hl (k := 3) rfl (by rw [ex3_3]; rfl) (by decide) rfl (fun ls hl => ?_)
          refine lv_goto (tgt := 10) hx hb dX2_hasOutlier_31 (by decide) ?_
          exact ih x3_3 _ _ _ hW (lv_sub hl [2, 3, 0] rfl) hr
        · have hr := br_p c1 hr
          refine lv_iconst (v := (1 : Int32)) hx hb dX2_hasOutlier_26 (by decide) ?_
          rw [← Option.some.inj hr]
          exact xzret hx hb hr0 hlocks hW adR_rf (by decide) dX2_hasOutlier_27
  exact hL10_1 1000 (0 : Int32) _ _ _ hW (lv_sub hl [1, 2, 0] rfl) hr

set_option maxHeartbeats 4000000 in
set_option maxRecDepth 100000 in
theorem c_X10_asNumber (l : Launch) (D : va_G) (cA : Nat → ClassId) (ad : Nat → Nat) (M : Mm) (x0 : Int32) {r : Int32} (hr : f_X10_asNumber x0 M = some r) : Met l yX10_asNumber wsX10_asNumber ({ frames := 0, cells := 0, slots := 0, locals := 0 }) (PcX D true cA ad M [.int x0]) (QiX false D true cA ad r M) 0 0 (AX true ad) := by
  refine Met.ofW (cc := cX10_asNumber) (maxL := 1) (ret := (some .int)) (by decide) rfl ?_
  intro p e s m args below meth c s₁ B hml hv
  obtain ⟨hav, hP0, hK⟩ := hv
  have hx := B.exec
  have hb := B.bytes
  have hr0 := B.returns
  have hts := atoms_spec (ws := wsX10_asNumber) B.pre
  have hown : s.vm.findClass RX10 = some m.cls := findClass_of_methodNamed B.named
  have hlocks := B.notSynchronized
  have hW := xstart hP0
  have hl := lv_entry ([.int x0]) (n := 1) (Nat.le_of_ble_eq_true rfl)
  have hef := lg_entry_eq m ([.int x0]) 1
  rw [← hav] at hef
  rw [hef]
  clear hef
  generalize (lg_sl ([.int x0]) ++ List.replicate (1 - (lg_sl ([.int x0])).length) Slot.unset).toArray = ls at hl ⊢
  have hl : lv_has ls 1 [(0, .int x0)] := hl
  clear hP0
  unfold f_X10_asNumber at hr
  refine lv_iload_n hx hb dX10_asNumber_0 rfl (lv_at hl 0 rfl) ?_
  refine lv_if_eq (tgt := 8) hx hb dX10_asNumber_1 (by decide) (fun c1 => ?_) (fun c1 => ?_)
  · have hr := br_p c1 hr
    refine lv_iconst (v := (0 : Int32)) hx hb dX10_asNumber_8 (by decide) ?_
    rw [← Option.some.inj hr]
    exact xiret hx hb hr0 hlocks hW adR_rf dX10_asNumber_9
  · have hr := br_n c1 hr
    refine lv_iconst (v := (1 : Int32)) hx hb dX10_asNumber_4 (by decide) ?_
    refine lv_goto (tgt := 9) hx hb dX10_asNumber_5 (by decide) ?_
    rw [← Option.some.inj hr]
    exact xiret hx hb hr0 hlocks hW adR_rf dX10_asNumber_9

set_option maxHeartbeats 4000000 in
set_option maxRecDepth 100000 in
theorem c_X2_settlePath (l : Launch) (D : va_G) (cA : Nat → ClassId) (ad : Nat → Nat) (M : Mm) (a1 : Nat) (x2 : Int32) {M' : Mm} (ha1 : KS true a1 = 3) (hr : f_X2_settlePath a1 x2 M = some M') : Met l yX2_settlePath wsX2_settlePath ({ frames := 1, cells := 0, slots := 0, locals := 23 }) (PcX D true cA ad M [.ref (ad 232), .ref (ad a1), .int x2]) (QvX false D true cA ad M') 0 0 (AX true ad) := by
  refine Met.ofW (cc := cX2_settlePath) (maxL := 3) (ret := none) (by decide) rfl ?_
  intro p e s m args below meth c s₁ B hml hv
  obtain ⟨hav, hP0, hK⟩ := hv
  have hx := B.exec
  have hb := B.bytes
  have hr0 := B.returns
  have hts := atoms_spec (ws := wsX2_settlePath) B.pre
  have hown : s.vm.findClass RX2 = some m.cls := findClass_of_methodNamed B.named
  have hlocks := B.notSynchronized
  have hW := xstart hP0
  have hi2 : ∀ w ∈ wsX20, w ∈ wsX2_settlePath := fun w h => List.mem_cons_of_mem _ (List.mem_append_left _ (List.mem_append_left _ (List.mem_append_right _ h)))
  have hi3 : ∀ w ∈ wsX30, w ∈ wsX2_settlePath := fun w h => List.mem_cons_of_mem _ (List.mem_append_left _ (List.mem_append_right _ h))
  have hi7 : ∀ w ∈ wsX70, w ∈ wsX2_settlePath := fun w h => List.mem_cons_of_mem _ (List.mem_append_right _ h)
  have hl := lv_entry ([.ref (ad 232), .ref (ad a1), .int x2]) (n := 3) (Nat.le_of_ble_eq_true rfl)
  have hef := lg_entry_eq m ([.ref (ad 232), .ref (ad a1), .int x2]) 3
  rw [← hav] at hef
  rw [hef]
  clear hef
  generalize (lg_sl ([.ref (ad 232), .ref (ad a1), .int x2]) ++ List.replicate (3 - (lg_sl ([.ref (ad 232), .ref (ad a1), .int x2])).length) Slot.unset).toArray = ls at hl ⊢
  have hl : lv_has ls 3 [(0, .ref (ad 232)), (1, .ref (ad a1)), (2, .int x2)] := hl
  clear hP0
  unfold f_X2_settlePath at hr
  refine lv_iload_n hx hb dX2_settlePath_0 rfl (lv_at hl 2 rfl) ?_
  refine lv_if_lt (tgt := 9) hx hb dX2_settlePath_1 (by decide) (fun c1 => ?_) (fun c1 => ?_)
  · have hr := br_p c1 hr
    rw [← Option.some.inj hr]
    exact xvret hx hb hr0 hlocks hW adR_rf dX2_settlePath_9
  · have hr := br_n c1 hr
    refine lv_iload_n hx hb dX2_settlePath_4 rfl (lv_at hl 2 rfl) ?_
    refine lv_iconst (v := (4 : Int32)) hx hb dX2_settlePath_5 (by decide) ?_
    refine lv_icmp_lt (tgt := 10) hx hb dX2_settlePath_6 (by decide) (fun c1 => ?_) (fun c1 => ?_)
    · have hr := br_p c1 hr
      refine lv_aload_n hx hb dX2_settlePath_10 rfl (lv_at hl 1 rfl) ?_
      refine lv_aload_n hx hb dX2_settlePath_11 rfl (lv_at hl 0 rfl) ?_
      refine g2_3 hx hb hts hi2 hown hK hW (k := 232) rfl (hts _ (wm 1 rfl)) dX2_settlePath_12 ?_
      refine lv_iload_n hx hb dX2_settlePath_15 rfl (lv_at hl 2 rfl) ?_
      obtain ⟨hn16, hr⟩ := chk_e hr
      refine xiald hx hb hK hW (k := 236) (t := 20) rfl (by decide) (by decide) rfl (n := 4) hn16 (jx := (ix x2)) rfl dX2_settlePath_16 ?_
      obtain ⟨M_1, eM_1, hr⟩ := lt1_e hr
      refine p3_10 hx hb hts hi3 hown hK hW (k := a1) ha1 (hts _ (wm 2 rfl)) dX2_settlePath_17 (fun H locs hW => ?_)
      rw [← eM_1] at hW
      refine lv_aload_n hx hb dX2_settlePath_20 rfl (lv_at hl 1 rfl) ?_
      refine lv_aload_n hx hb dX2_settlePath_21 rfl (lv_at hl 0 rfl) ?_
      refine g2_4 hx hb hts hi2 hown hK hW (k := 232) rfl (hts _ (wm 3 rfl)) dX2_settlePath_22 ?_
      refine lv_iload_n hx hb dX2_settlePath_25 rfl (lv_at hl 2 rfl) ?_
      obtain ⟨hn26, hr⟩ := chk_e hr
      refine xiald hx hb hK hW (k := 237) (t := 20) rfl (by decide) (by decide) rfl (n := 4) hn26 (jx := (ix x2)) rfl dX2_settlePath_26 ?_
      obtain ⟨M_2, eM_2, hr⟩ := lt1_e hr
      refine p3_11 hx hb hts hi3 hown hK hW (k := a1) ha1 (hts _ (wm 4 rfl)) dX2_settlePath_27 (fun H locs hW => ?_)
      rw [← eM_2] at hW
      refine lv_aload_n hx hb dX2_settlePath_30 rfl (lv_at hl 1 rfl) ?_
      refine lv_dup hx hb dX2_settlePath_31 rfl ?_
      refine g3_13 hx hb hts hi3 hown hK hW (k := a1) ha1 (hts _ (wm 5 rfl)) dX2_settlePath_32 ?_
      refine lv_aload_n hx hb dX2_settlePath_35 rfl (lv_at hl 0 rfl) ?_
      refine g2_3 hx hb hts hi2 hown hK hW (k := 232) rfl (hts _ (wm 1 rfl)) dX2_settlePath_36 ?_
      refine lv_iload_n hx hb dX2_settlePath_39 rfl (lv_at hl 2 rfl) ?_
      obtain ⟨hn40, hr⟩ := chk_e hr
      refine xiald hx hb hK hW (k := 236) (t := 20) rfl (by decide) (by decide) rfl (n := 4) hn40 (jx := (ix x2)) rfl dX2_settlePath_40 ?_
      refine lv_iconst (v := (3 : Int32)) hx hb dX2_settlePath_41 (by decide) ?_
      obtain ⟨y_3, hr, hr3⟩ := ob1_e hr
      have hj50_3 : ∀ (H : Heap) (locs : List Loc) (ls : Array Slot), Xw D true cA ad M_2 (AX true ad) s.heap H locs → lv_has ls 3 [(0, .ref (ad 232)), (1, .ref (ad a1)), (2, .int x2)] → W p l e (headSpec wsX2_settlePath { frames := 1, cells := 0, slots := 0, locals := 23 }).room s m args below meth c H locs 0 0 (MQ below (QvX false D true cA ad M') args s 0 0 (AX true ad)) (F0 m 50 ls [.int y_3, .int (gI M_2 a1 13), .ref (ad a1)]) := by
        intro H locs ls hW hl
        have hr := hr3
        obtain ⟨r_4, hc50, hr⟩ := ob1_e hr
        refine xk_i (va_runSN (As := [.int y_3]) (rest := [.int (gI M_2 a1 13), .ref (ad a1)]) ⟨hx, hb, hml, hown, hts⟩ (c_X10_asNumber l D cA ad M_2 y_3 hc50) ⟨va_cnB 1 hts gX2_settlePath_X10_asNumber_n206 rfl rfl rfl hK.2.2.2.2.2.2.2.2.2.2.2.2.2.2.2.2.1 (hts _ (wm 23 rfl)) (by decide +kernel) ⟨Nat.le_of_ble_eq_true rfl, Nat.le_of_ble_eq_true rfl⟩, (hts _ (wm 22 rfl)), trivial⟩ (xpreS hK hW) rfl rfl hl.1 rfl (lv_room (Nat.le_of_ble_eq_true rfl)) dX2_settlePath_50 ⟨Nat.le_of_ble_eq_true rfl, Nat.le_of_ble_eq_true rfl⟩) hW (fun H locs hW => ?_)
        refine lv_iadd hx hb dX2_settlePath_53 ?_
        obtain ⟨M_5, eM_5, hr⟩ := lt1_e hr
        refine p3_13 hx hb hts hi3 hown hK hW (k := a1) ha1 (hts _ (wm 5 rfl)) dX2_settlePath_54 (fun H locs hW => ?_)
        rw [← eM_5] at hW
        refine lv_aload_n hx hb dX2_settlePath_57 rfl (lv_at hl 1 rfl) ?_
        refine lv_dup hx hb dX2_settlePath_58 rfl ?_
        refine g3_14 hx hb hts hi3 hown hK hW (k := a1) ha1 (hts _ (wm 6 rfl)) dX2_settlePath_59 ?_
        refine lv_aload_n hx hb dX2_settlePath_62 rfl (lv_at hl 0 rfl) ?_
        refine g2_3 hx hb hts hi2 hown hK hW (k := 232) rfl (hts _ (wm 1 rfl)) dX2_settlePath_63 ?_
        refine lv_iload_n hx hb dX2_settlePath_66 rfl (lv_at hl 2 rfl) ?_
        obtain ⟨hn67, hr⟩ := chk_e hr
        refine xiald hx hb hK hW (k := 236) (t := 20) rfl (by decide) (by decide) rfl (n := 4) hn67 (jx := (ix x2)) rfl dX2_settlePath_67 ?_
        refine lv_iconst (v := (2 : Int32)) hx hb dX2_settlePath_68 (by decide) ?_
        obtain ⟨y_6, hr, hr3⟩ := ob1_e hr
        have hj77_6 : ∀ (H : Heap) (locs : List Loc) (ls : Array Slot), Xw D true cA ad M_5 (AX true ad) s.heap H locs → lv_has ls 3 [(0, .ref (ad 232)), (1, .ref (ad a1)), (2, .int x2)] → W p l e (headSpec wsX2_settlePath { frames := 1, cells := 0, slots := 0, locals := 23 }).room s m args below meth c H locs 0 0 (MQ below (QvX false D true cA ad M') args s 0 0 (AX true ad)) (F0 m 77 ls [.int y_6, .int (gI M_5 a1 14), .ref (ad a1)]) := by
          intro H locs ls hW hl
          have hr := hr3
          obtain ⟨r_7, hc77, hr⟩ := ob1_e hr
          refine xk_i (va_runSN (As := [.int y_6]) (rest := [.int (gI M_5 a1 14), .ref (ad a1)]) ⟨hx, hb, hml, hown, hts⟩ (c_X10_asNumber l D cA ad M_5 y_6 hc77) ⟨va_cnB 1 hts gX2_settlePath_X10_asNumber_n206 rfl rfl rfl hK.2.2.2.2.2.2.2.2.2.2.2.2.2.2.2.2.1 (hts _ (wm 23 rfl)) (by decide +kernel) ⟨Nat.le_of_ble_eq_true rfl, Nat.le_of_ble_eq_true rfl⟩, (hts _ (wm 22 rfl)), trivial⟩ (xpreS hK hW) rfl rfl hl.1 rfl (lv_room (Nat.le_of_ble_eq_true rfl)) dX2_settlePath_77 ⟨Nat.le_of_ble_eq_true rfl, Nat.le_of_ble_eq_true rfl⟩) hW (fun H locs hW => ?_)
          refine lv_iadd hx hb dX2_settlePath_80 ?_
          obtain ⟨M_8, eM_8, hr⟩ := lt1_e hr
          refine p3_14 hx hb hts hi3 hown hK hW (k := a1) ha1 (hts _ (wm 6 rfl)) dX2_settlePath_81 (fun H locs hW => ?_)
          rw [← eM_8] at hW
          refine lv_aload_n hx hb dX2_settlePath_84 rfl (lv_at hl 0 rfl) ?_
          refine g2_6 hx hb hts hi2 hown hK hW (k := 232) rfl (hts _ (wm 7 rfl)) dX2_settlePath_85 ?_
          refine lv_iload_n hx hb dX2_settlePath_88 rfl (lv_at hl 2 rfl) ?_
          obtain ⟨r_9, hc89, hr⟩ := ob1_e hr
          refine xk_i (va_runSN (As := [.int (gI M_8 232 6), .int x2]) (rest := []) ⟨hx, hb, hml, hown, hts⟩ (c_X10_contains l D cA ad M_8 (gI M_8 232 6) x2 hc89) ⟨va_cnB 2 hts gX2_settlePath_X10_contains_n154 rfl rfl rfl hK.2.2.2.2.2.2.2.2.2.2.2.2.2.1 (hts _ (wm 23 rfl)) (by decide +kernel) ⟨Nat.le_of_ble_eq_true rfl, Nat.le_of_ble_eq_true rfl⟩, (hts _ (wm 25 rfl)), trivial⟩ (xpreS hK hW) rfl rfl hl.1 rfl (lv_room (Nat.le_of_ble_eq_true rfl)) dX2_settlePath_89 ⟨Nat.le_of_ble_eq_true rfl, Nat.le_of_ble_eq_true rfl⟩) hW (fun H locs hW => ?_)
          refine lv_if_ne (tgt := 106) hx hb dX2_settlePath_92 (by decide) (fun c1 => ?_) (fun c1 => ?_)
          · have hr := br_n c1 hr
            refine lv_aload_n hx hb dX2_settlePath_106 rfl (lv_at hl 1 rfl) ?_
            refine lv_iconst (v := (0 : Int32)) hx hb dX2_settlePath_107 (by decide) ?_
            obtain ⟨M_10, eM_10, hr⟩ := lt1_e hr
            refine p3_12 hx hb hts hi3 hown hK hW (k := a1) ha1 (hts _ (wm 8 rfl)) dX2_settlePath_108 (fun H locs hW => ?_)
            rw [← eM_10] at hW
            refine lv_aload_n hx hb dX2_settlePath_111 rfl (lv_at hl 1 rfl) ?_
            refine lv_iconst (v := (1 : Int32)) hx hb dX2_settlePath_112 (by decide) ?_
            obtain ⟨M_11, eM_11, hr⟩ := lt1_e hr
            refine p3_5 hx hb hts hi3 hown hK hW (k := a1) ha1 (hts _ (wm 9 rfl)) (by decide) dX2_settlePath_113 (fun H locs hW => ?_)
            rw [← eM_11] at hW
            refine lv_aload_n hx hb dX2_settlePath_116 rfl (lv_at hl 1 rfl) ?_
            refine lv_aload_n hx hb dX2_settlePath_117 rfl (lv_at hl 1 rfl) ?_
            refine g3_15 hx hb hts hi3 hown hK hW (k := a1) ha1 (hts _ (wm 10 rfl)) dX2_settlePath_118 ?_
            refine g7_1 hx hb hts hi7 hown hK hW (k := (a1 + 1)) (ks_3s ha1) (hts _ (wm 11 rfl)) dX2_settlePath_121 ?_
            refine lv_aload_n hx hb dX2_settlePath_124 rfl (lv_at hl 0 rfl) ?_
            refine g2_1 hx hb hts hi2 hown hK hW (k := 232) rfl (hts _ (wm 12 rfl)) dX2_settlePath_125 ?_
            refine lv_iload_n hx hb dX2_settlePath_128 rfl (lv_at hl 2 rfl) ?_
            obtain ⟨hn129, hr⟩ := chk_e hr
            refine xiald hx hb hK hW (k := 234) (t := 20) rfl (by decide) (by decide) rfl (n := 4) hn129 (jx := (ix x2)) rfl dX2_settlePath_129 ?_
            refine lv_aload_n hx hb dX2_settlePath_130 rfl (lv_at hl 1 rfl) ?_
            refine g3_3 hx hb hts hi3 hown hK hW (k := a1) ha1 (hts _ (wm 13 rfl)) dX2_settlePath_131 ?_
            refine lv_imul hx hb dX2_settlePath_134 ?_
            refine lv_isub hx hb dX2_settlePath_135 ?_
            obtain ⟨M_12, eM_12, hr⟩ := lt1_e hr
            refine p3_6 hx hb hts hi3 hown hK hW (k := a1) ha1 (hts _ (wm 14 rfl)) dX2_settlePath_136 (fun H locs hW => ?_)
            rw [← eM_12] at hW
            refine lv_aload_n hx hb dX2_settlePath_139 rfl (lv_at hl 1 rfl) ?_
            refine lv_aload_n hx hb dX2_settlePath_140 rfl (lv_at hl 1 rfl) ?_
            refine g3_15 hx hb hts hi3 hown hK hW (k := a1) ha1 (hts _ (wm 10 rfl)) dX2_settlePath_141 ?_
            refine g7_2 hx hb hts hi7 hown hK hW (k := (a1 + 1)) (ks_3s ha1) (hts _ (wm 15 rfl)) dX2_settlePath_144 ?_
            refine lv_aload_n hx hb dX2_settlePath_147 rfl (lv_at hl 0 rfl) ?_
            refine g2_2 hx hb hts hi2 hown hK hW (k := 232) rfl (hts _ (wm 16 rfl)) dX2_settlePath_148 ?_
            refine lv_iload_n hx hb dX2_settlePath_151 rfl (lv_at hl 2 rfl) ?_
            obtain ⟨hn152, hr⟩ := chk_e hr
            refine xiald hx hb hK hW (k := 235) (t := 20) rfl (by decide) (by decide) rfl (n := 4) hn152 (jx := (ix x2)) rfl dX2_settlePath_152 ?_
            refine lv_aload_n hx hb dX2_settlePath_153 rfl (lv_at hl 1 rfl) ?_
            refine g3_3 hx hb hts hi3 hown hK hW (k := a1) ha1 (hts _ (wm 13 rfl)) dX2_settlePath_154 ?_
            refine lv_imul hx hb dX2_settlePath_157 ?_
            refine lv_isub hx hb dX2_settlePath_158 ?_
            obtain ⟨M_13, eM_13, hr⟩ := lt1_e hr
            refine p3_7 hx hb hts hi3 hown hK hW (k := a1) ha1 (hts _ (wm 17 rfl)) dX2_settlePath_159 (fun H locs hW => ?_)
            rw [← eM_13] at hW
            refine lv_aload_n hx hb dX2_settlePath_162 rfl (lv_at hl 0 rfl) ?_
            refine g2_9 hx hb hts hi2 hown hK hW (k := 232) rfl (hts _ (wm 18 rfl)) dX2_settlePath_163 ?_
            refine lv_if_eq (tgt := 203) hx hb dX2_settlePath_166 (by decide) (fun c1 => ?_) (fun c1 => ?_)
            · have hr := br_p c1 hr
              rw [← Option.some.inj hr]
              exact xvret hx hb hr0 hlocks hW adR_rf dX2_settlePath_203
            · have hr := br_n c1 hr
              refine lv_aload_n hx hb dX2_settlePath_169 rfl (lv_at hl 1 rfl) ?_
              refine lv_iconst (v := (1 : Int32)) hx hb dX2_settlePath_170 (by decide) ?_
              obtain ⟨M_14, eM_14, hr⟩ := lt1_e hr
              refine p3_8 hx hb hts hi3 hown hK hW (k := a1) ha1 (hts _ (wm 19 rfl)) (by decide) dX2_settlePath_171 (fun H locs hW => ?_)
              rw [← eM_14] at hW
              refine lv_aload_n hx hb dX2_settlePath_174 rfl (lv_at hl 1 rfl) ?_
              refine lv_aload_n hx hb dX2_settlePath_175 rfl (lv_at hl 0 rfl) ?_
              refine g2_4 hx hb hts hi2 hown hK hW (k := 232) rfl (hts _ (wm 3 rfl)) dX2_settlePath_176 ?_
              refine lv_iload_n hx hb dX2_settlePath_179 rfl (lv_at hl 2 rfl) ?_
              obtain ⟨hn180, hr⟩ := chk_e hr
              refine xiald hx hb hK hW (k := 237) (t := 20) rfl (by decide) (by decide) rfl (n := 4) hn180 (jx := (ix x2)) rfl dX2_settlePath_180 ?_
              refine lv_i2l hx hb dX2_settlePath_181 rfl ?_
              refine lv_ldc2 (v := (1000 : Int64)) hx hb hown (hts _ (wm 20 rfl)) dX2_settlePath_182 ?_
              refine lv_lmul hx hb dX2_settlePath_185 ?_
              refine lv_aload_n hx hb dX2_settlePath_186 rfl (lv_at hl 0 rfl) ?_
              refine g2_9 hx hb hts hi2 hown hK hW (k := 232) rfl (hts _ (wm 18 rfl)) dX2_settlePath_187 ?_
              refine lv_i2l hx hb dX2_settlePath_190 rfl ?_
              obtain ⟨r_15, hc191, hr⟩ := ob1_e hr
              refine xk_l (va_runSN (As := [.long ((Int32.toInt64 (gI M_14 237 (ix x2))) * (1000 : Int64)), .long (Int32.toInt64 (gI M_14 232 9))]) (rest := [.ref (ad a1)]) ⟨hx, hb, hml, hown, hts⟩ (c_X10_quotient l D cA ad M_14 ((Int32.toInt64 (gI M_14 237 (ix x2))) * (1000 : Int64)) (Int32.toInt64 (gI M_14 232 9)) hc191) ⟨va_cnB 2 hts gX2_settlePath_X10_quotient_n164 rfl rfl rfl hK.2.2.2.2.2.2.2.2.2.2.2.2.2.2.1 (hts _ (wm 23 rfl)) (by decide +kernel) ⟨Nat.le_of_ble_eq_true rfl, Nat.le_of_ble_eq_true rfl⟩, (hts _ (wm 27 rfl)), trivial⟩ (xpreS hK hW) rfl rfl hl.1 rfl (lv_room (Nat.le_of_ble_eq_true rfl)) dX2_settlePath_191 ⟨Nat.le_of_ble_eq_true rfl, Nat.le_of_ble_eq_true rfl⟩) hW (fun H locs hW => ?_)
              refine lv_sipush (v := (5000 : Int32)) hx hb dX2_settlePath_194 (by decide) ?_
              obtain ⟨r_16, hc197, hr⟩ := ob1_e hr
              refine xk_i (va_runSN (As := [.long r_15, .int (5000 : Int32)]) (rest := [.ref (ad a1)]) ⟨hx, hb, hml, hown, hts⟩ (c_X10_limited l D cA ad M_14 r_15 (5000 : Int32) hc197) ⟨va_cnB 2 hts gX2_settlePath_X10_limited_n216 rfl rfl rfl hK.2.2.2.2.2.2.2.2.2.2.2.2.2.2.2.2.2.1 (hts _ (wm 23 rfl)) (by decide +kernel) ⟨Nat.le_of_ble_eq_true rfl, Nat.le_of_ble_eq_true rfl⟩, (hts _ (wm 29 rfl)), trivial⟩ (xpreS hK hW) rfl rfl hl.1 rfl (lv_room (Nat.le_of_ble_eq_true rfl)) dX2_settlePath_197 ⟨Nat.le_of_ble_eq_true rfl, Nat.le_of_ble_eq_true rfl⟩) hW (fun H locs hW => ?_)
              obtain ⟨M_17, eM_17, hr⟩ := lt1_e hr
              refine p3_9 hx hb hts hi3 hown hK hW (k := a1) ha1 (hts _ (wm 21 rfl)) dX2_settlePath_200 (fun H locs hW => ?_)
              rw [← eM_17] at hW
              rw [← Option.some.inj hr]
              exact xvret hx hb hr0 hlocks hW adR_rf dX2_settlePath_203
          · have hr := br_p c1 hr
            refine lv_aload_n hx hb dX2_settlePath_95 rfl (lv_at hl 1 rfl) ?_
            refine lv_dup hx hb dX2_settlePath_96 rfl ?_
            refine g3_12 hx hb hts hi3 hown hK hW (k := a1) ha1 (hts _ (wm 8 rfl)) dX2_settlePath_97 ?_
            refine lv_iconst (v := (1 : Int32)) hx hb dX2_settlePath_100 (by decide) ?_
            refine lv_iadd hx hb dX2_settlePath_101 ?_
            obtain ⟨M_18, eM_18, hr⟩ := lt1_e hr
            refine p3_12 hx hb hts hi3 hown hK hW (k := a1) ha1 (hts _ (wm 8 rfl)) dX2_settlePath_102 (fun H locs hW => ?_)
            rw [← eM_18] at hW
            rw [← Option.some.inj hr]
            exact xvret hx hb hr0 hlocks hW adR_rf dX2_settlePath_105
        clear hr3
        refine lv_icmp_ne (tgt := 76) hx hb dX2_settlePath_69 (by decide) (fun c1 => ?_) (fun c1 => ?_)
        · have hr := br_n c1 hr
          refine lv_iconst (v := (0 : Int32)) hx hb dX2_settlePath_76 (by decide) ?_
          have e1 := Option.some.inj hr
          subst e1
          exact hj77_6 _ _ _ hW (lv_sub hl [0, 1, 2] rfl)
        · have hr := br_p c1 hr
          refine lv_iconst (v := (1 : Int32)) hx hb dX2_settlePath_72 (by decide) ?_
          refine lv_goto (tgt := 77) hx hb dX2_settlePath_73 (by decide) ?_
          have e1 := Option.some.inj hr
          subst e1
          exact hj77_6 _ _ _ hW (lv_sub hl [0, 1, 2] rfl)
      clear hr3
      refine lv_icmp_ne (tgt := 49) hx hb dX2_settlePath_42 (by decide) (fun c1 => ?_) (fun c1 => ?_)
      · have hr := br_n c1 hr
        refine lv_iconst (v := (0 : Int32)) hx hb dX2_settlePath_49 (by decide) ?_
        have e1 := Option.some.inj hr
        subst e1
        exact hj50_3 _ _ _ hW (lv_sub hl [0, 1, 2] rfl)
      · have hr := br_p c1 hr
        refine lv_iconst (v := (1 : Int32)) hx hb dX2_settlePath_45 (by decide) ?_
        refine lv_goto (tgt := 50) hx hb dX2_settlePath_46 (by decide) ?_
        have e1 := Option.some.inj hr
        subst e1
        exact hj50_3 _ _ _ hW (lv_sub hl [0, 1, 2] rfl)
    · have hr := br_n c1 hr
      rw [← Option.some.inj hr]
      exact xvret hx hb hr0 hlocks hW adR_rf dX2_settlePath_9

theorem adR_piR {ad : Nat → Nat} : adR true true ad (fun k => ad (piR k)) := by
  refine ⟨fun k hk => ?_, fun k hk => ⟨piR k, ?_, rfl⟩⟩
  · have e : piR k = k := by
      unfold stb at hk
      unfold piR
      simp at hk
      rw [if_neg (by omega), if_neg (by omega)]
    exact congrArg ad e
  · show piR k < 238
    have hk : k < 238 := hk
    unfold piR
    split
    · omega
    · split <;> omega
set_option maxHeartbeats 4000000 in
set_option maxRecDepth 100000 in
theorem c_X6_startLatest (l : Launch) (D : va_G) (cA : Nat → ClassId) (ad : Nat → Nat) (M : Mm) {M' : Mm} (hr : f_X6_startLatest M = some M') : Met l yX6_startLatest wsX6_startLatest ({ frames := 1, cells := 0, slots := 0, locals := 30 }) (PcX D true cA ad M [.ref (ad 14)]) (QqX true D true cA ad (some 16) M') 0 0 (AX true ad) := by
  refine Met.ofW (cc := cX6_startLatest) (maxL := 3) (ret := some (.object "TransitMeter$Round")) (by decide) rfl ?_
  intro p e s m args below meth c s₁ B hml hv
  obtain ⟨rfl, hP0, hK⟩ := hv
  have hx := B.exec
  have hb := B.bytes
  have hr0 := B.returns
  have hts := atoms_spec (ws := wsX6_startLatest) B.pre
  have hown : s.vm.findClass RX6 = some m.cls := findClass_of_methodNamed B.named
  have hlocks := B.notSynchronized
  have hi6 : ∀ w ∈ wsX60, w ∈ wsX6_startLatest := fun w h => List.mem_cons_of_mem _ (List.mem_append_right _ h)
  have hX := XS_of (x := 15) (by decide) (by decide) (xstart hP0)
  have hl := lv_entry ([.ref (ad 14)]) (n := 3) (Nat.le_of_ble_eq_true rfl)
  rw [lg_entry_eq]
  generalize (lg_sl ([.ref (ad 14)]) ++ List.replicate (3 - (lg_sl ([.ref (ad 14)])).length) Slot.unset).toArray = ls at hl ⊢
  have hl : lv_has ls 3 [(0, .ref (ad 14))] := hl
  clear hP0
  unfold f_X6_startLatest at hr
  have hM' := Option.some.inj hr
  have k5 : ∀ i, i < 12 → KS true (16 + i) = 5 ∧ 16 + i ≠ 15 := by decide +kernel
  have hL : ∀ (i : Nat) (f : Nat → Option Nat) (H : Heap) (locs : List Loc) (ls : Array Slot), i ≤ 11 → (∀ j, f j = if j < 12 then (if j ≤ i then some (ad (16 + j)) else some (ad (15 + j))) else none) → Xs D cA ad M 15 f (AX true ad) s.heap H locs → lv_has ls 3 [(2, .int (nI i)), (1, .ref (ad 27)), (0, .ref (ad 14))] → W p l e (headSpec wsX6_startLatest { frames := 1, cells := 0, slots := 0, locals := 30 }).room s m ([.ref (ad 14)] : List Value).toArray below meth c H locs 0 0 (MQ below (QqX true D true cA ad (some 16) M') ([.ref (ad 14)] : List Value).toArray s 0 0 (AX true ad)) (F0 m 11 ls []) := by
    intro i
    induction i with
    | zero =>
      intro f H locs ls _ hf hX hl
      refine lv_iload_n hx hb dX6_startLatest_11 rfl (lv_at hl 0 rfl) ?_
      refine lv_if_le (tgt := 35) hx hb dX6_startLatest_12 (by decide) (fun _ => ?_) (fun c1 => absurd (by decide) c1)
      refine lv_aload_n hx hb dX6_startLatest_35 rfl (lv_at hl 2 rfl) ?_
      refine xsget hx hb (T := TX6) (N := 2) (C := RX6) hts hi6 hown hK hX (k := 14) (by decide) rfl (by decide) rfl 0 (by decide) (hts _ (wm 1 rfl)) (v := .ref (ad 15)) rfl dX6_startLatest_36 ?_
      refine lv_iconst (v := (0 : Int32)) hx hb dX6_startLatest_39 (by decide) ?_
      refine lv_aload_n hx hb dX6_startLatest_40 rfl (lv_at hl 1 rfl) ?_
      refine xsast hx hb hK hX (by decide) (t0 := 4) (ci := 5) (r := (RX5, TX5, 6)) rfl rfl (y := 27) (by decide) rfl (by decide) (by decide) dX6_startLatest_41 (fun H locs hX => ?_)
      have hW := relabel (M' := shR M) piR (by decide) (by decide) (by decide +kernel) (by decide +kernel) rfl (fun j => by
        show va_up f (ix 0) (some (ad 27)) j = if j < 12 then some (ad (piR (15 + 1 + j))) else none
        have z : ix 0 = 0 := by decide
        rw [z]
        unfold va_up
        by_cases h0 : j = 0
        · subst h0
          rfl
        · rw [if_neg h0, hf]
          by_cases h12 : j < 12
          · rw [if_pos h12, if_pos h12, if_neg (by omega)]
            unfold piR
            rw [if_neg (by omega), if_pos (by omega)]
            congr 2
            omega
          · rw [if_neg h12, if_neg h12]) (fun k => ⟨rfl, rfl⟩) hX
      have had := adR_piR (ad := ad)
      have e27 : ad 27 = (fun k => ad (piR k)) 16 := rfl
      have e14 : ad 14 = (fun k => ad (piR k)) 14 := rfl
      rw [e27, e14] at hl
      generalize (fun k => ad (piR k)) = ad2 at hW had hl
      refine lv_aload_n hx hb dX6_startLatest_42 rfl (lv_at hl 2 rfl) ?_
      refine lv_aload_n hx hb dX6_startLatest_43 rfl (lv_at hl 2 rfl) ?_
      refine g6_1 hx hb hts hi6 hown hK hW (k := 14) rfl (hts _ (wm 2 rfl)) dX6_startLatest_44 ?_
      refine lv_iconst (v := (1 : Int32)) hx hb dX6_startLatest_47 (by decide) ?_
      refine lv_iadd hx hb dX6_startLatest_48 ?_
      refine lv_bipush (v := (12 : Int32)) hx hb dX6_startLatest_49 (by decide) ?_
      refine va_mmin hx hb (hml.trans hl.1.symm) hown (hts _ (wm 3 rfl)) (hts _ (wm 4 rfl)) (hts _ (wm 5 rfl)) (hts _ (wm 6 rfl)) (Nat.le_of_ble_eq_true rfl) (Nat.le_of_ble_eq_true rfl) (Nat.zero_le _) (Nat.zero_le _) dX6_startLatest_51 ?_
      refine p6_1 hx hb hts hi6 hown hK hW (k := 14) rfl (hts _ (wm 2 rfl)) dX6_startLatest_54 (fun H locs hW => ?_)
      refine lv_aload_n hx hb dX6_startLatest_57 rfl (lv_at hl 1 rfl) ?_
      rw [← hM']
      exact xaret hx hb hr0 hlocks hW had dX6_startLatest_58
    | succ i ih =>
      intro f H locs ls hi hf hX hl
      refine lv_iload_n hx hb dX6_startLatest_11 rfl (lv_at hl 0 rfl) ?_
      refine lv_if_le (tgt := 35) hx hb dX6_startLatest_12 (by decide) (fun c1 => absurd c1 (nI_nle (by omega) (by omega))) (fun _ => ?_)
      refine lv_aload_n hx hb dX6_startLatest_15 rfl (lv_at hl 2 rfl) ?_
      refine xsget hx hb (T := TX6) (N := 2) (C := RX6) hts hi6 hown hK hX (k := 14) (by decide) rfl (by decide) rfl 0 (by decide) (hts _ (wm 1 rfl)) (v := .ref (ad 15)) rfl dX6_startLatest_16 ?_
      refine lv_iload_n hx hb dX6_startLatest_19 rfl (lv_at hl 0 rfl) ?_
      refine lv_aload_n hx hb dX6_startLatest_20 rfl (lv_at hl 2 rfl) ?_
      refine xsget hx hb (T := TX6) (N := 2) (C := RX6) hts hi6 hown hK hX (k := 14) (by decide) rfl (by decide) rfl 0 (by decide) (hts _ (wm 1 rfl)) (v := .ref (ad 15)) rfl dX6_startLatest_21 ?_
      refine lv_iload_n hx hb dX6_startLatest_24 rfl (lv_at hl 0 rfl) ?_
      refine lv_iconst (v := (1 : Int32)) hx hb dX6_startLatest_25 (by decide) ?_
      refine lv_isub hx hb dX6_startLatest_26 ?_
      rw [nI_pred]
      refine xsald hx hb hK hX (by decide) (t0 := 4) (C := "TransitMeter$Round") rfl (i := nI i) (inb_nI (N := 12) (by omega) (by decide)) (y := ad (16 + i)) (by rw [ix_nI (by omega), hf, if_pos (by omega), if_pos (by omega)]) dX6_startLatest_27 ?_
      refine xsast hx hb hK hX (by decide) (t0 := 4) (ci := 5) (r := (RX5, TX5, 6)) rfl rfl (y := 16 + i) (k5 i (by omega)).2 (k5 i (by omega)).1 (by decide) (inb_nI (N := 12) (by omega) (by decide)) dX6_startLatest_28 (fun H locs hX => ?_)
      refine lv_iinc (v := nI i) (lv' := [(2, .int (nI i)), (1, .ref (ad 27)), (0, .ref (ad 14))]) hx hb dX6_startLatest_29 hl (k := 0) rfl (pk_m1 i) (by decide) rfl (fun ls hl => ?_)
      refine lv_goto (tgt := 11) hx hb dX6_startLatest_32 (by decide) ?_
      refine ih _ _ _ _ (by omega) (fun j => ?_) hX hl
      rw [ix_nI (by omega)]
      unfold va_up
      by_cases h1 : j = i + 1
      · subst h1
        rw [if_pos rfl, if_pos (by omega), if_neg (by omega)]
        congr 2
        omega
      · rw [if_neg h1, hf]
        by_cases h12 : j < 12
        · rw [if_pos h12, if_pos h12]
          by_cases h2 : j ≤ i
          · rw [if_pos (by omega), if_pos h2]
          · rw [if_neg (by omega), if_neg h2]
        · rw [if_neg h12, if_neg h12]
  refine lv_aload_n hx hb dX6_startLatest_0 rfl (lv_at hl 0 rfl) ?_
  refine xsget hx hb (T := TX6) (N := 2) (C := RX6) hts hi6 hown hK hX (k := 14) (by decide) rfl (by decide) rfl 0 (by decide) (hts _ (wm 1 rfl)) (v := .ref (ad 15)) rfl dX6_startLatest_1 ?_
  refine lv_bipush (v := (11 : Int32)) hx hb dX6_startLatest_4 (by decide) ?_
  refine xsald hx hb hK hX (by decide) (t0 := 4) (C := "TransitMeter$Round") rfl (i := 11) (by decide) (y := ad 27) rfl dX6_startLatest_6 ?_
  refine lv_astore_n (lv' := [(1, .ref (ad 27)), (0, .ref (ad 14))]) hx hb dX6_startLatest_7 rfl hl (by decide) rfl (fun ls hl => ?_)
  refine lv_bipush (v := (11 : Int32)) hx hb dX6_startLatest_8 (by decide) ?_
  refine lv_istore_n (lv' := [(2, .int 11), (1, .ref (ad 27)), (0, .ref (ad 14))]) hx hb dX6_startLatest_10 rfl hl (by decide) rfl (fun ls hl => ?_)
  exact hL 11 _ _ _ _ (Nat.le_refl _) (fun j => by
    show (if j < 12 then some (ad (15 + 1 + j)) else none) = _
    by_cases h12 : j < 12
    · rw [if_pos h12, if_pos h12, if_pos (by omega)]
    · rw [if_neg h12, if_neg h12]) hX hl

set_option maxHeartbeats 4000000 in
set_option maxRecDepth 100000 in
theorem c_X2_fillIn (l : Launch) (D : va_G) (cA : Nat → ClassId) (ad : Nat → Nat) (M : Mm) {M' : Mm} (hr : f_X2_fillIn M = some M') : Met l yX2_fillIn wsX2_fillIn ({ frames := 0, cells := 0, slots := 0, locals := 0 }) (PcX D true cA ad M [.ref (ad 232), .ref (ad 16)]) (QvX false D true cA ad M') 0 0 (AX true ad) := by
  refine Met.ofW (cc := cX2_fillIn) (maxL := 2) (ret := none) (by decide) rfl ?_
  intro p e s m args below meth c s₁ B hml hv
  obtain ⟨hav, hP0, hK⟩ := hv
  have hx := B.exec
  have hb := B.bytes
  have hr0 := B.returns
  have hts := atoms_spec (ws := wsX2_fillIn) B.pre
  have hown : s.vm.findClass RX2 = some m.cls := findClass_of_methodNamed B.named
  have hlocks := B.notSynchronized
  have hW := xstart hP0
  have hi2 : ∀ w ∈ wsX20, w ∈ wsX2_fillIn := fun w h => List.mem_cons_of_mem _ (List.mem_append_left _ (List.mem_append_right _ h))
  have hi5 : ∀ w ∈ wsX50, w ∈ wsX2_fillIn := fun w h => List.mem_cons_of_mem _ (List.mem_append_right _ h)
  have hl := lv_entry ([.ref (ad 232), .ref (ad 16)]) (n := 2) (Nat.le_of_ble_eq_true rfl)
  have hef := lg_entry_eq m ([.ref (ad 232), .ref (ad 16)]) 2
  rw [← hav] at hef
  rw [hef]
  clear hef
  generalize (lg_sl ([.ref (ad 232), .ref (ad 16)]) ++ List.replicate (2 - (lg_sl ([.ref (ad 232), .ref (ad 16)])).length) Slot.unset).toArray = ls at hl ⊢
  have hl : lv_has ls 2 [(0, .ref (ad 232)), (1, .ref (ad 16))] := hl
  clear hP0
  unfold f_X2_fillIn at hr
  refine lv_aload_n hx hb dX2_fillIn_0 rfl (lv_at hl 1 rfl) ?_
  refine lv_aload_n hx hb dX2_fillIn_1 rfl (lv_at hl 0 rfl) ?_
  refine g2_10 hx hb hts hi2 hown hK hW (k := 232) rfl (hts _ (wm 1 rfl)) dX2_fillIn_2 ?_
  obtain ⟨M_1, eM_1, hr⟩ := lt1_e hr
  refine p5_0 hx hb hts hi5 hown hK hW (k := 16) rfl (hts _ (wm 2 rfl)) dX2_fillIn_5 (fun H locs hW => ?_)
  rw [← eM_1] at hW
  refine lv_aload_n hx hb dX2_fillIn_8 rfl (lv_at hl 1 rfl) ?_
  refine lv_aload_n hx hb dX2_fillIn_9 rfl (lv_at hl 0 rfl) ?_
  refine g2_9 hx hb hts hi2 hown hK hW (k := 232) rfl (hts _ (wm 3 rfl)) dX2_fillIn_10 ?_
  obtain ⟨M_2, eM_2, hr⟩ := lt1_e hr
  refine p5_1 hx hb hts hi5 hown hK hW (k := 16) rfl (hts _ (wm 4 rfl)) dX2_fillIn_13 (fun H locs hW => ?_)
  rw [← eM_2] at hW
  refine lv_aload_n hx hb dX2_fillIn_16 rfl (lv_at hl 1 rfl) ?_
  refine lv_aload_n hx hb dX2_fillIn_17 rfl (lv_at hl 0 rfl) ?_
  refine g2_6 hx hb hts hi2 hown hK hW (k := 232) rfl (hts _ (wm 5 rfl)) dX2_fillIn_18 ?_
  obtain ⟨M_3, eM_3, hr⟩ := lt1_e hr
  refine p5_2 hx hb hts hi5 hown hK hW (k := 16) rfl (hts _ (wm 6 rfl)) dX2_fillIn_21 (fun H locs hW => ?_)
  rw [← eM_3] at hW
  refine lv_aload_n hx hb dX2_fillIn_24 rfl (lv_at hl 1 rfl) ?_
  refine lv_aload_n hx hb dX2_fillIn_25 rfl (lv_at hl 0 rfl) ?_
  refine g2_7 hx hb hts hi2 hown hK hW (k := 232) rfl (hts _ (wm 7 rfl)) dX2_fillIn_26 ?_
  obtain ⟨M_4, eM_4, hr⟩ := lt1_e hr
  refine p5_3 hx hb hts hi5 hown hK hW (k := 16) rfl (hts _ (wm 8 rfl)) dX2_fillIn_29 (fun H locs hW => ?_)
  rw [← eM_4] at hW
  refine lv_aload_n hx hb dX2_fillIn_32 rfl (lv_at hl 1 rfl) ?_
  refine lv_aload_n hx hb dX2_fillIn_33 rfl (lv_at hl 0 rfl) ?_
  refine g2_8 hx hb hts hi2 hown hK hW (k := 232) rfl (hts _ (wm 9 rfl)) dX2_fillIn_34 ?_
  obtain ⟨M_5, eM_5, hr⟩ := lt1_e hr
  refine p5_4 hx hb hts hi5 hown hK hW (k := 16) rfl (hts _ (wm 10 rfl)) dX2_fillIn_37 (fun H locs hW => ?_)
  rw [← eM_5] at hW
  refine lv_aload_n hx hb dX2_fillIn_40 rfl (lv_at hl 1 rfl) ?_
  refine lv_aload_n hx hb dX2_fillIn_41 rfl (lv_at hl 0 rfl) ?_
  refine g2_5 hx hb hts hi2 hown hK hW (k := 232) rfl (hts _ (wm 11 rfl)) dX2_fillIn_42 ?_
  obtain ⟨M_6, eM_6, hr⟩ := lt1_e hr
  refine p5_5 hx hb hts hi5 hown hK hW (k := 16) rfl (hts _ (wm 12 rfl)) dX2_fillIn_45 (fun H locs hW => ?_)
  rw [← eM_6] at hW
  rw [← Option.some.inj hr]
  exact xvret hx hb hr0 hlocks hW adR_rf dX2_fillIn_48

set_option maxHeartbeats 4000000 in
set_option maxRecDepth 100000 in
theorem c_X8_countVolume (l : Launch) (D : va_G) (cA : Nat → ClassId) (ad : Nat → Nat) (M : Mm) (x1 : Int32) {M' : Mm} (hr : f_X8_countVolume x1 M = some M') : Met l yX8_countVolume wsX8_countVolume ({ frames := 0, cells := 0, slots := 0, locals := 0 }) (PcX D true cA ad M [.ref (ad 0), .int x1]) (QvX false D true cA ad M') 0 0 (AX true ad) := by
  refine Met.ofW (cc := cX8_countVolume) (maxL := 4) (ret := none) (by decide) rfl ?_
  intro p e s m args below meth c s₁ B hml hv
  obtain ⟨hav, hP0, hK⟩ := hv
  have hx := B.exec
  have hb := B.bytes
  have hr0 := B.returns
  have hts := atoms_spec (ws := wsX8_countVolume) B.pre
  have hown : s.vm.findClass RX8 = some m.cls := findClass_of_methodNamed B.named
  have hlocks := B.notSynchronized
  have hW := xstart hP0
  have hi8 : ∀ w ∈ wsX80, w ∈ wsX8_countVolume := fun w h => List.mem_cons_of_mem _ (List.mem_append_right _ h)
  have hl := lv_entry ([.ref (ad 0), .int x1]) (n := 4) (Nat.le_of_ble_eq_true rfl)
  have hef := lg_entry_eq m ([.ref (ad 0), .int x1]) 4
  rw [← hav] at hef
  rw [hef]
  clear hef
  generalize (lg_sl ([.ref (ad 0), .int x1]) ++ List.replicate (4 - (lg_sl ([.ref (ad 0), .int x1])).length) Slot.unset).toArray = ls at hl ⊢
  have hl : lv_has ls 4 [(0, .ref (ad 0)), (1, .int x1)] := hl
  clear hP0
  unfold f_X8_countVolume at hr
  refine lv_iload_n hx hb dX8_countVolume_0 rfl (lv_at hl 1 rfl) ?_
  refine lv_i2l hx hb dX8_countVolume_1 rfl ?_
  refine lv_aload_n hx hb dX8_countVolume_2 rfl (lv_at hl 0 rfl) ?_
  refine g8_3 hx hb hts hi8 hown hK hW (k := 0) rfl (hts _ (wm 1 rfl)) dX8_countVolume_3 ?_
  refine lv_iconst (v := (3 : Int32)) hx hb dX8_countVolume_6 (by decide) ?_
  refine xiald hx hb hK hW (k := 13) (t := 21) rfl (by decide) (by decide) rfl (n := 5) (by decide) (jx := 3) (by decide) dX8_countVolume_7 ?_
  refine lv_i2l hx hb dX8_countVolume_8 rfl ?_
  refine lv_lmul hx hb dX8_countVolume_9 ?_
  refine lv_aload_n hx hb dX8_countVolume_10 rfl (lv_at hl 0 rfl) ?_
  refine g8_3 hx hb hts hi8 hown hK hW (k := 0) rfl (hts _ (wm 1 rfl)) dX8_countVolume_11 ?_
  refine lv_iconst (v := (4 : Int32)) hx hb dX8_countVolume_14 (by decide) ?_
  refine xiald hx hb hK hW (k := 13) (t := 21) rfl (by decide) (by decide) rfl (n := 5) (by decide) (jx := 4) (by decide) dX8_countVolume_15 ?_
  refine lv_i2l hx hb dX8_countVolume_16 rfl ?_
  refine lv_lmul hx hb dX8_countVolume_17 ?_
  refine lv_ldc2 (v := (1000 : Int64)) hx hb hown (hts _ (wm 2 rfl)) dX8_countVolume_18 ?_
  refine lv_ldiv hx hb dX8_countVolume_21 (by decide) ?_
  obtain ⟨x2_1, ex2_1, hr⟩ := lt1_e hr
  rw [← ex2_1]
  refine lv_lstore_n (lv' := [(2, .long x2_1), (0, .ref (ad 0)), (1, .int x1)]) hx hb dX8_countVolume_22 rfl hl (by decide) rfl (fun ls hl => ?_)
  refine lv_lload_n hx hb dX8_countVolume_23 rfl (lv_at hl 0 rfl) ?_
  refine lv_lconst (v := (0 : Int64)) hx hb dX8_countVolume_24 (by decide) ?_
  refine xlc_le (tgt := 42) hx hb dX8_countVolume_25 dX8_countVolume_26 (by decide) (fun c1 => ?_) (fun c1 => ?_)
  · have hr := br_p c1 hr
    refine lv_aload_n hx hb dX8_countVolume_42 rfl (lv_at hl 1 rfl) ?_
    refine lv_dup hx hb dX8_countVolume_43 rfl ?_
    refine g8_9 hx hb hts hi8 hown hK hW (k := 0) rfl (hts _ (wm 4 rfl)) dX8_countVolume_44 ?_
    refine lv_lload_n hx hb dX8_countVolume_47 rfl (lv_at hl 0 rfl) ?_
    refine lv_lsub hx hb dX8_countVolume_48 ?_
    obtain ⟨M_2, eM_2, hr⟩ := lt1_e hr
    refine p8_9 hx hb hts hi8 hown hK hW (k := 0) rfl (hts _ (wm 4 rfl)) dX8_countVolume_49 (fun H locs hW => ?_)
    rw [← eM_2] at hW
    rw [← Option.some.inj hr]
    exact xvret hx hb hr0 hlocks hW adR_rf dX8_countVolume_52
  · have hr := br_n c1 hr
    refine lv_aload_n hx hb dX8_countVolume_29 rfl (lv_at hl 1 rfl) ?_
    refine lv_dup hx hb dX8_countVolume_30 rfl ?_
    refine g8_8 hx hb hts hi8 hown hK hW (k := 0) rfl (hts _ (wm 3 rfl)) dX8_countVolume_31 ?_
    refine lv_lload_n hx hb dX8_countVolume_34 rfl (lv_at hl 0 rfl) ?_
    refine lv_ladd hx hb dX8_countVolume_35 ?_
    obtain ⟨M_3, eM_3, hr⟩ := lt1_e hr
    refine p8_8 hx hb hts hi8 hown hK hW (k := 0) rfl (hts _ (wm 3 rfl)) dX8_countVolume_36 (fun H locs hW => ?_)
    rw [← eM_3] at hW
    refine lv_goto (tgt := 52) hx hb dX8_countVolume_39 (by decide) ?_
    rw [← Option.some.inj hr]
    exact xvret hx hb hr0 hlocks hW adR_rf dX8_countVolume_52

set_option maxHeartbeats 4000000 in
set_option maxRecDepth 100000 in
theorem c_X2_settle (l : Launch) (D : va_G) (cA : Nat → ClassId) (ad : Nat → Nat) (M : Mm) {M' : Mm} (hr : f_X2_settle M = some M') : Met l yX2_settle wsX2_settle ({ frames := 2, cells := 0, slots := 0, locals := 52 }) (PcX D true cA ad M [.ref (ad 232), .ref (ad 0)]) (QvX true D true cA ad M') 0 0 (AX true ad) := by
  refine Met.ofW (cc := cX2_settle) (maxL := 6) (ret := none) (by decide) rfl ?_
  intro p e s m args below meth c s₁ B hml hv
  obtain ⟨hav, hP0, hK⟩ := hv
  have hx := B.exec
  have hb := B.bytes
  have hr0 := B.returns
  have hts := atoms_spec (ws := wsX2_settle) B.pre
  have hown : s.vm.findClass RX2 = some m.cls := findClass_of_methodNamed B.named
  have hlocks := B.notSynchronized
  have hW := xstart hP0
  have hi2 : ∀ w ∈ wsX20, w ∈ wsX2_settle := fun w h => List.mem_cons_of_mem _ (List.mem_append_left _ (List.mem_append_left _ (List.mem_append_right _ h)))
  have hi3 : ∀ w ∈ wsX30, w ∈ wsX2_settle := fun w h => List.mem_cons_of_mem _ (List.mem_append_left _ (List.mem_append_left _ (List.mem_append_left _ (List.mem_append_left _ (List.mem_append_right _ h)))))
  have hi7 : ∀ w ∈ wsX70, w ∈ wsX2_settle := fun w h => List.mem_cons_of_mem _ (List.mem_append_left _ (List.mem_append_left _ (List.mem_append_left _ (List.mem_append_right _ h))))
  have hi8 : ∀ w ∈ wsX80, w ∈ wsX2_settle := fun w h => List.mem_cons_of_mem _ (List.mem_append_left _ (List.mem_append_left _ (List.mem_append_left _ (List.mem_append_left _ (List.mem_append_left _ (List.mem_append_right _ h))))))
  have hl := lv_entry ([.ref (ad 232), .ref (ad 0)]) (n := 6) (Nat.le_of_ble_eq_true rfl)
  have hef := lg_entry_eq m ([.ref (ad 232), .ref (ad 0)]) 6
  rw [← hav] at hef
  rw [hef]
  clear hef
  generalize (lg_sl ([.ref (ad 232), .ref (ad 0)]) ++ List.replicate (6 - (lg_sl ([.ref (ad 232), .ref (ad 0)])).length) Slot.unset).toArray = ls at hl ⊢
  have hl : lv_has ls 6 [(0, .ref (ad 232)), (1, .ref (ad 0))] := hl
  clear hP0
  unfold f_X2_settle at hr
  refine lv_iconst (v := (0 : Int32)) hx hb dX2_settle_0 (by decide) ?_
  refine lv_istore_n (lv' := [(2, .int (0 : Int32)), (0, .ref (ad 232)), (1, .ref (ad 0))]) hx hb dX2_settle_1 rfl hl (by decide) rfl (fun ls hl => ?_)
  have hL2_1 : ∀ (n : Nat) (x2_1 : Int32) (M_2 : Mm) (H : Heap) (locs : List Loc) (ls : Array Slot) (M_3 : Mm), Xw D true cA ad M_2 (AX true ad) s.heap H locs → lv_has ls 6 [(0, .ref (ad 232)), (1, .ref (ad 0)), (2, .int x2_1)] → f_X2_settle_L2 n x2_1 M_2 = some M_3 → (∀ (H : Heap) (locs : List Loc) (ls : Array Slot), Xw D true cA ad M_3 (AX true ad) s.heap H locs → lv_has ls 6 [(0, .ref (ad 232)), (1, .ref (ad 0))] → W p l e (headSpec wsX2_settle { frames := 2, cells := 0, slots := 0, locals := 52 }).room s m args below meth c H locs 0 0 (MQ below (QvX true D true cA ad M') args s 0 0 (AX true ad)) (F0 m 32 ls [])) → W p l e (headSpec wsX2_settle { frames := 2, cells := 0, slots := 0, locals := 52 }).room s m args below meth c H locs 0 0 (MQ below (QvX true D true cA ad M') args s 0 0 (AX true ad)) (F0 m 2 ls []) := by
    intro n
    induction n with
    | zero =>
      intro x2_1 M_2 H locs ls M_3 hW hl hr hk
      exact absurd hr (by simp [f_X2_settle_L2])
    | succ n ih =>
      intro x2_1 M_2 H locs ls M_3 hW hl hr hk
      rw [f_X2_settle_L2] at hr
      refine lv_iload_n hx hb dX2_settle_2 rfl (lv_at hl 2 rfl) ?_
      refine lv_iconst (v := (4 : Int32)) hx hb dX2_settle_3 (by decide) ?_
      refine lv_icmp_ge (tgt := 32) hx hb dX2_settle_4 (by decide) (fun c1 => ?_) (fun c1 => ?_)
      · have hr := br_p c1 hr
        have e1 := Option.some.inj hr
        subst e1
        exact hk _ _ _ hW (lv_sub hl [0, 1] rfl)
      · have hr := br_n c1 hr
        refine lv_iload_n hx hb dX2_settle_7 rfl (lv_at hl 2 rfl) ?_
        refine lv_aload_n hx hb dX2_settle_8 rfl (lv_at hl 1 rfl) ?_
        refine g8_1 hx hb hts hi8 hown hK hW (k := 0) rfl (hts _ (wm 1 rfl)) dX2_settle_9 ?_
        refine lv_icmp_ge (tgt := 32) hx hb dX2_settle_12 (by decide) (fun c1 => ?_) (fun c1 => ?_)
        · have hr := br_p c1 hr
          have e1 := Option.some.inj hr
          subst e1
          exact hk _ _ _ hW (lv_sub hl [0, 1] rfl)
        · have hr := br_n c1 hr
          refine lv_aload_n hx hb dX2_settle_15 rfl (lv_at hl 0 rfl) ?_
          refine lv_aload_n hx hb dX2_settle_16 rfl (lv_at hl 1 rfl) ?_
          refine g8_0 hx hb hts hi8 hown hK hW (k := 0) rfl (hts _ (wm 2 rfl)) dX2_settle_17 ?_
          refine lv_iload_n hx hb dX2_settle_20 rfl (lv_at hl 2 rfl) ?_
          obtain ⟨hn21, hr⟩ := chk_e hr
          refine xaald hx hb hK hW (k := 1) (t := 50) rfl (by decide) (by decide) rfl (t0 := 3) rfl hn21 dX2_settle_21 ?_
          refine lv_iload_n hx hb dX2_settle_22 rfl (lv_at hl 2 rfl) ?_
          obtain ⟨M_4, hc23, hr⟩ := ob1_e hr
          refine xk_v (va_runV (As := [.ref (ad (rid 50 1 (ix x2_1))), .int x2_1]) (rest := []) ⟨hx, hb, hml, hown, hts⟩ (c_X2_settlePath l D cA ad M_2 (rid 50 1 (ix x2_1)) x2_1 (ks_50 (k := 1) rfl hn21) hc23) (cwV 2 hts gX2_settle_X2_settlePath rfl rfl rfl (by decide +kernel) ⟨Nat.le_of_ble_eq_true rfl, Nat.le_of_ble_eq_true rfl⟩) (xpreV hK hW (k := 232) rfl (by decide) rfl) rfl rfl hl.1 rfl (lv_room (Nat.le_of_ble_eq_true rfl)) dX2_settle_23 ⟨Nat.le_of_ble_eq_true rfl, Nat.le_of_ble_eq_true rfl⟩) hW (fun H locs hW => ?_)
          obtain ⟨x2_5, ex2_5, hr⟩ := lt1_e hr
          refine lv_iinc (v := x2_5) (lv' := [(2, .int x2_5), (0, .ref (ad 232)), (1, .ref (ad 0))]) hx hb dX2_settle_26 hl (k := 2) rfl (by rw [ex2_5]; rfl) (by decide) rfl (fun ls hl => ?_)
          refine lv_goto (tgt := 2) hx hb dX2_settle_29 (by decide) ?_
          exact ih x2_5 M_4 _ _ _ _ hW (lv_sub hl [1, 2, 0] rfl) hr hk
  obtain ⟨M_3, hr, hr3⟩ := ob1_e hr
  refine hL2_1 1000 (0 : Int32) M _ _ _ M_3 hW (lv_sub hl [1, 2, 0] rfl) hr (fun H locs ls hW hl => ?_)
  clear hr
  have hr := hr3
  refine lv_aload_n hx hb dX2_settle_32 rfl (lv_at hl 1 rfl) ?_
  refine g8_0 hx hb hts hi8 hown hK hW (k := 0) rfl (hts _ (wm 2 rfl)) dX2_settle_33 ?_
  refine lv_astore_n (lv' := [(2, .ref (ad 1)), (0, .ref (ad 232)), (1, .ref (ad 0))]) hx hb dX2_settle_36 rfl hl (by decide) rfl (fun ls hl => ?_)
  refine lv_aload_n hx hb dX2_settle_37 rfl (lv_at hl 0 rfl) ?_
  refine xalen hx hb hK hW (k := 1) (t := 50) rfl (by decide) (by decide) (v := (4 : Int32)) rfl dX2_settle_38 ?_
  refine lv_istore_n (lv' := [(3, .int (4 : Int32)), (2, .ref (ad 1)), (0, .ref (ad 232)), (1, .ref (ad 0))]) hx hb dX2_settle_39 rfl hl (by decide) rfl (fun ls hl => ?_)
  refine lv_iconst (v := (0 : Int32)) hx hb dX2_settle_40 (by decide) ?_
  refine lv_istore (lv' := [(4, .int (0 : Int32)), (3, .int (4 : Int32)), (2, .ref (ad 1)), (0, .ref (ad 232)), (1, .ref (ad 0))]) hx hb dX2_settle_41 hl (by decide) rfl (fun ls hl => ?_)
  have hL43_2 : ∀ (n : Nat) (x4_6 : Int32) (M_7 : Mm) (H : Heap) (locs : List Loc) (ls : Array Slot) (M_8 : Mm), Xw D true cA ad M_7 (AX true ad) s.heap H locs → lv_has ls 6 [(3, .int (4 : Int32)), (2, .ref (ad 1)), (0, .ref (ad 232)), (1, .ref (ad 0)), (4, .int x4_6)] → f_X2_settle_L43 n x4_6 M_7 = some M_8 → (∀ (H : Heap) (locs : List Loc) (ls : Array Slot), Xw D true cA ad M_8 (AX true ad) s.heap H locs → lv_has ls 6 [(0, .ref (ad 232)), (1, .ref (ad 0))] → W p l e (headSpec wsX2_settle { frames := 2, cells := 0, slots := 0, locals := 52 }).room s m args below meth c H locs 0 0 (MQ below (QvX true D true cA ad M') args s 0 0 (AX true ad)) (F0 m 70 ls [])) → W p l e (headSpec wsX2_settle { frames := 2, cells := 0, slots := 0, locals := 52 }).room s m args below meth c H locs 0 0 (MQ below (QvX true D true cA ad M') args s 0 0 (AX true ad)) (F0 m 43 ls []) := by
    intro n
    induction n with
    | zero =>
      intro x4_6 M_7 H locs ls M_8 hW hl hr hk
      exact absurd hr (by simp [f_X2_settle_L43])
    | succ n ih =>
      intro x4_6 M_7 H locs ls M_8 hW hl hr hk
      rw [f_X2_settle_L43] at hr
      refine lv_iload hx hb dX2_settle_43 (lv_at hl 4 rfl) ?_
      refine lv_iload_n hx hb dX2_settle_45 rfl (lv_at hl 0 rfl) ?_
      refine lv_icmp_ge (tgt := 70) hx hb dX2_settle_46 (by decide) (fun c1 => ?_) (fun c1 => ?_)
      · have hr := br_p c1 hr
        have e1 := Option.some.inj hr
        subst e1
        exact hk _ _ _ hW (lv_sub hl [2, 3] rfl)
      · have hr := br_n c1 hr
        refine lv_aload_n hx hb dX2_settle_49 rfl (lv_at hl 1 rfl) ?_
        refine lv_iload hx hb dX2_settle_50 (lv_at hl 4 rfl) ?_
        obtain ⟨hn52, hr⟩ := chk_e hr
        refine xaald hx hb hK hW (k := 1) (t := 50) rfl (by decide) (by decide) rfl (t0 := 3) rfl hn52 dX2_settle_52 ?_
        refine lv_astore (lv' := [(5, .ref (ad (rid 50 1 (ix x4_6)))), (3, .int (4 : Int32)), (2, .ref (ad 1)), (0, .ref (ad 232)), (1, .ref (ad 0)), (4, .int x4_6)]) hx hb dX2_settle_53 hl (by decide) rfl (fun ls hl => ?_)
        refine lv_aload hx hb dX2_settle_55 (lv_at hl 0 rfl) ?_
        refine g3_15 hx hb hts hi3 hown hK hW (k := (rid 50 1 (ix x4_6))) (ks_50 (k := 1) rfl hn52) (hts _ (wm 3 rfl)) dX2_settle_57 ?_
        refine lv_iconst (v := (0 : Int32)) hx hb dX2_settle_60 (by decide) ?_
        obtain ⟨M_9, eM_9, hr⟩ := lt1_e hr
        refine p7_0 hx hb hts hi7 hown hK hW (k := ((rid 50 1 (ix x4_6)) + 1)) (ks_3s (ks_50 (k := 1) rfl hn52)) (hts _ (wm 4 rfl)) (by decide) dX2_settle_61 (fun H locs hW => ?_)
        rw [← eM_9] at hW
        obtain ⟨x4_10, ex4_10, hr⟩ := lt1_e hr
        refine lv_iinc (v := x4_10) (lv' := [(4, .int x4_10), (5, .ref (ad (rid 50 1 (ix x4_6)))), (3, .int (4 : Int32)), (2, .ref (ad 1)), (0, .ref (ad 232)), (1, .ref (ad 0))]) hx hb dX2_settle_64 hl (k := 5) rfl (by rw [ex4_10]; rfl) (by decide) rfl (fun ls hl => ?_)
        refine lv_goto (tgt := 43) hx hb dX2_settle_67 (by decide) ?_
        exact ih x4_10 M_9 _ _ _ _ hW (lv_sub hl [2, 3, 4, 5, 0] rfl) hr hk
  obtain ⟨M_8, hr, hr3⟩ := ob1_e hr
  refine hL43_2 1000 (0 : Int32) M_3 _ _ _ M_8 hW (lv_sub hl [1, 2, 3, 4, 0] rfl) hr (fun H locs ls hW hl => ?_)
  clear hr
  have hr := hr3
  refine lv_aload_n hx hb dX2_settle_70 rfl (lv_at hl 0 rfl) ?_
  refine lv_aload_n hx hb dX2_settle_71 rfl (lv_at hl 1 rfl) ?_
  refine g8_5 hx hb hts hi8 hown hK hW (k := 0) rfl (hts _ (wm 5 rfl)) dX2_settle_72 ?_
  obtain ⟨M_11, hc75, hr⟩ := ob1_e hr
  refine xc_q (va_runV (As := []) (rest := [.ref (ad 232)]) ⟨hx, hb, hml, hown, hts⟩ (c_X6_startLatest l D cA ad M_8 hc75) (cwV 0 hts gX2_settle_X6_startLatest rfl rfl rfl (by decide +kernel) ⟨Nat.le_of_ble_eq_true rfl, Nat.le_of_ble_eq_true rfl⟩) (xpreV hK hW (k := 14) rfl (by decide) rfl) rfl rfl hl.1 rfl (lv_room (Nat.le_of_ble_eq_true rfl)) dX2_settle_75 ⟨Nat.le_of_ble_eq_true rfl, Nat.le_of_ble_eq_true rfl⟩) hW (fun ad_12 H locs had2 hW => ?_)
  rw [← had2.1 232 rfl] at hl ⊢
  rw [← had2.1 0 rfl] at hl
  have had := had2
  obtain ⟨M_13, hc78, hr⟩ := ob1_e hr
  refine xk_v (va_runV (As := [.ref (ad_12 16)]) (rest := []) ⟨hx, hb, hml, hown, hts⟩ (c_X2_fillIn l D cA ad_12 M_11 hc78) (cwV 1 hts gX2_settle_X2_fillIn rfl rfl rfl (by decide +kernel) ⟨Nat.le_of_ble_eq_true rfl, Nat.le_of_ble_eq_true rfl⟩) (xpreV hK hW (k := 232) rfl (by decide) rfl) rfl rfl hl.1 rfl (lv_room (Nat.le_of_ble_eq_true rfl)) dX2_settle_78 ⟨Nat.le_of_ble_eq_true rfl, Nat.le_of_ble_eq_true rfl⟩) hW (fun H locs hW => ?_)
  refine lv_aload_n hx hb dX2_settle_81 rfl (lv_at hl 1 rfl) ?_
  refine lv_dup hx hb dX2_settle_82 rfl ?_
  refine g8_6 hx hb hts hi8 hown hK hW (k := 0) rfl (hts _ (wm 6 rfl)) dX2_settle_83 ?_
  refine lv_iconst (v := (1 : Int32)) hx hb dX2_settle_86 (by decide) ?_
  refine lv_iadd hx hb dX2_settle_87 ?_
  obtain ⟨M_14, eM_14, hr⟩ := lt1_e hr
  refine p8_6 hx hb hts hi8 hown hK hW (k := 0) rfl (hts _ (wm 6 rfl)) dX2_settle_88 (fun H locs hW => ?_)
  rw [← eM_14] at hW
  refine lv_aload_n hx hb dX2_settle_91 rfl (lv_at hl 0 rfl) ?_
  refine g2_6 hx hb hts hi2 hown hK hW (k := 232) rfl (hts _ (wm 7 rfl)) dX2_settle_92 ?_
  refine lv_if_ne (tgt := 111) hx hb dX2_settle_95 (by decide) (fun c1 => ?_) (fun c1 => ?_)
  · have hr := br_n c1 hr
    refine lv_aload_n hx hb dX2_settle_111 rfl (lv_at hl 1 rfl) ?_
    refine lv_aload_n hx hb dX2_settle_112 rfl (lv_at hl 0 rfl) ?_
    refine g2_10 hx hb hts hi2 hown hK hW (k := 232) rfl (hts _ (wm 9 rfl)) dX2_settle_113 ?_
    obtain ⟨M_15, hc116, hr⟩ := ob1_e hr
    refine xk_v (va_runV (As := [.int (gI M_14 232 10)]) (rest := []) ⟨hx, hb, hml, hown, hts⟩ (c_X8_countVolume l D cA ad_12 M_14 (gI M_14 232 10) hc116) (cwV 1 hts gX2_settle_X8_countVolume rfl rfl rfl (by decide +kernel) ⟨Nat.le_of_ble_eq_true rfl, Nat.le_of_ble_eq_true rfl⟩) (xpreV hK hW (k := 0) rfl (by decide) rfl) rfl rfl hl.1 rfl (lv_room (Nat.le_of_ble_eq_true rfl)) dX2_settle_116 ⟨Nat.le_of_ble_eq_true rfl, Nat.le_of_ble_eq_true rfl⟩) hW (fun H locs hW => ?_)
    rw [← Option.some.inj hr]
    exact xvret hx hb hr0 hlocks hW had dX2_settle_119
  · have hr := br_p c1 hr
    refine lv_aload_n hx hb dX2_settle_98 rfl (lv_at hl 1 rfl) ?_
    refine lv_dup hx hb dX2_settle_99 rfl ?_
    refine g8_7 hx hb hts hi8 hown hK hW (k := 0) rfl (hts _ (wm 8 rfl)) dX2_settle_100 ?_
    refine lv_iconst (v := (1 : Int32)) hx hb dX2_settle_103 (by decide) ?_
    refine lv_iadd hx hb dX2_settle_104 ?_
    obtain ⟨M_16, eM_16, hr⟩ := lt1_e hr
    refine p8_7 hx hb hts hi8 hown hK hW (k := 0) rfl (hts _ (wm 8 rfl)) dX2_settle_105 (fun H locs hW => ?_)
    rw [← eM_16] at hW
    refine lv_goto (tgt := 119) hx hb dX2_settle_108 (by decide) ?_
    rw [← Option.some.inj hr]
    exact xvret hx hb hr0 hlocks hW had dX2_settle_119

set_option maxHeartbeats 4000000 in
set_option maxRecDepth 100000 in
theorem c_X3_fails (l : Launch) (D : va_G) (cA : Nat → ClassId) (ad : Nat → Nat) (M : Mm) (a0 : Nat) {r : Int32} (ha0 : KS true a0 = 3) (hr : f_X3_fails a0 M = some r) : Met l yX3_fails wsX3_fails ({ frames := 0, cells := 0, slots := 0, locals := 0 }) (PcX D true cA ad M [.ref (ad a0)]) (QiX false D true cA ad r M) 0 0 (AX true ad) := by
  refine Met.ofW (cc := cX3_fails) (maxL := 1) (ret := (some .boolean)) (by decide) rfl ?_
  intro p e s m args below meth c s₁ B hml hv
  obtain ⟨hav, hP0, hK⟩ := hv
  have hx := B.exec
  have hb := B.bytes
  have hr0 := B.returns
  have hts := atoms_spec (ws := wsX3_fails) B.pre
  have hown : s.vm.findClass RX3 = some m.cls := findClass_of_methodNamed B.named
  have hlocks := B.notSynchronized
  have hW := xstart hP0
  have hi3 : ∀ w ∈ wsX30, w ∈ wsX3_fails := fun w h => List.mem_cons_of_mem _ (List.mem_append_right _ h)
  have hl := lv_entry ([.ref (ad a0)]) (n := 1) (Nat.le_of_ble_eq_true rfl)
  have hef := lg_entry_eq m ([.ref (ad a0)]) 1
  rw [← hav] at hef
  rw [hef]
  clear hef
  generalize (lg_sl ([.ref (ad a0)]) ++ List.replicate (1 - (lg_sl ([.ref (ad a0)])).length) Slot.unset).toArray = ls at hl ⊢
  have hl : lv_has ls 1 [(0, .ref (ad a0))] := hl
  clear hP0
  unfold f_X3_fails at hr
  refine lv_aload_n hx hb dX3_fails_0 rfl (lv_at hl 0 rfl) ?_
  refine g3_12 hx hb hts hi3 hown hK hW (k := a0) ha0 (hts _ (wm 1 rfl)) dX3_fails_1 ?_
  refine lv_iconst (v := (3 : Int32)) hx hb dX3_fails_4 (by decide) ?_
  refine lv_icmp_lt (tgt := 12) hx hb dX3_fails_5 (by decide) (fun c1 => ?_) (fun c1 => ?_)
  · have hr := br_p c1 hr
    refine lv_iconst (v := (0 : Int32)) hx hb dX3_fails_12 (by decide) ?_
    rw [← Option.some.inj hr]
    exact xzret hx hb hr0 hlocks hW adR_rf (by decide) dX3_fails_13
  · have hr := br_n c1 hr
    refine lv_iconst (v := (1 : Int32)) hx hb dX3_fails_8 (by decide) ?_
    refine lv_goto (tgt := 13) hx hb dX3_fails_9 (by decide) ?_
    rw [← Option.some.inj hr]
    exact xzret hx hb hr0 hlocks hW adR_rf (by decide) dX3_fails_13

set_option maxHeartbeats 4000000 in
set_option maxRecDepth 100000 in
theorem c_X3_property (l : Launch) (D : va_G) (cA : Nat → ClassId) (ad : Nat → Nat) (M : Mm) (a0 : Nat) (x1 : Int32) {r : Int32} (ha0 : KS true a0 = 3) (hr : f_X3_property a0 x1 M = some r) : Met l yX3_property wsX3_property ({ frames := 1, cells := 0, slots := 0, locals := 20 }) (PcX D true cA ad M [.ref (ad a0), .int x1]) (QiX false D true cA ad r M) 0 0 (AX true ad) := by
  refine Met.ofW (cc := cX3_property) (maxL := 2) (ret := (some .int)) (by decide) rfl ?_
  intro p e s m args below meth c s₁ B hml hv
  obtain ⟨hav, hP0, hK⟩ := hv
  have hx := B.exec
  have hb := B.bytes
  have hr0 := B.returns
  have hts := atoms_spec (ws := wsX3_property) B.pre
  have hown : s.vm.findClass RX3 = some m.cls := findClass_of_methodNamed B.named
  have hlocks := B.notSynchronized
  have hW := xstart hP0
  have hi3 : ∀ w ∈ wsX30, w ∈ wsX3_property := fun w h => List.mem_cons_of_mem _ (List.mem_append_right _ h)
  have hl := lv_entry ([.ref (ad a0), .int x1]) (n := 2) (Nat.le_of_ble_eq_true rfl)
  have hef := lg_entry_eq m ([.ref (ad a0), .int x1]) 2
  rw [← hav] at hef
  rw [hef]
  clear hef
  generalize (lg_sl ([.ref (ad a0), .int x1]) ++ List.replicate (2 - (lg_sl ([.ref (ad a0), .int x1])).length) Slot.unset).toArray = ls at hl ⊢
  have hl : lv_has ls 2 [(0, .ref (ad a0)), (1, .int x1)] := hl
  clear hP0
  unfold f_X3_property at hr
  refine lv_iload_n hx hb dX3_property_0 rfl (lv_at hl 1 rfl) ?_
  by_cases c1_0 : x1 = (0 : Int32)
  · have hr := br_p c1_0 hr
    refine lv_tableIn (tgt := 72) hx hb dX3_property_1 (by rw [c1_0]; decide) (by rw [c1_0]; decide) (off := 71) (by rw [c1_0]; decide) (by decide) ?_
    refine lv_aload_n hx hb dX3_property_72 rfl (lv_at hl 0 rfl) ?_
    refine g3_0 hx hb hts hi3 hown hK hW (k := a0) ha0 (hts _ (wm 1 rfl)) dX3_property_73 ?_
    rw [← Option.some.inj hr]
    exact xiret hx hb hr0 hlocks hW adR_rf dX3_property_76
  · have hr := br_n c1_0 hr
    by_cases c1_1 : x1 = (1 : Int32)
    · have hr := br_p c1_1 hr
      refine lv_tableIn (tgt := 77) hx hb dX3_property_1 (by rw [c1_1]; decide) (by rw [c1_1]; decide) (off := 76) (by rw [c1_1]; decide) (by decide) ?_
      refine lv_aload_n hx hb dX3_property_77 rfl (lv_at hl 0 rfl) ?_
      refine g3_1 hx hb hts hi3 hown hK hW (k := a0) ha0 (hts _ (wm 2 rfl)) dX3_property_78 ?_
      rw [← Option.some.inj hr]
      exact xiret hx hb hr0 hlocks hW adR_rf dX3_property_81
    · have hr := br_n c1_1 hr
      by_cases c1_2 : x1 = (2 : Int32)
      · have hr := br_p c1_2 hr
        refine lv_tableIn (tgt := 82) hx hb dX3_property_1 (by rw [c1_2]; decide) (by rw [c1_2]; decide) (off := 81) (by rw [c1_2]; decide) (by decide) ?_
        refine lv_aload_n hx hb dX3_property_82 rfl (lv_at hl 0 rfl) ?_
        refine g3_2 hx hb hts hi3 hown hK hW (k := a0) ha0 (hts _ (wm 3 rfl)) dX3_property_83 ?_
        rw [← Option.some.inj hr]
        exact xiret hx hb hr0 hlocks hW adR_rf dX3_property_86
      · have hr := br_n c1_2 hr
        by_cases c1_3 : x1 = (3 : Int32)
        · have hr := br_p c1_3 hr
          refine lv_tableIn (tgt := 87) hx hb dX3_property_1 (by rw [c1_3]; decide) (by rw [c1_3]; decide) (off := 86) (by rw [c1_3]; decide) (by decide) ?_
          refine lv_aload_n hx hb dX3_property_87 rfl (lv_at hl 0 rfl) ?_
          refine g3_3 hx hb hts hi3 hown hK hW (k := a0) ha0 (hts _ (wm 4 rfl)) dX3_property_88 ?_
          rw [← Option.some.inj hr]
          exact xiret hx hb hr0 hlocks hW adR_rf dX3_property_91
        · have hr := br_n c1_3 hr
          by_cases c1_4 : x1 = (4 : Int32)
          · have hr := br_p c1_4 hr
            refine lv_tableIn (tgt := 92) hx hb dX3_property_1 (by rw [c1_4]; decide) (by rw [c1_4]; decide) (off := 91) (by rw [c1_4]; decide) (by decide) ?_
            refine lv_aload_n hx hb dX3_property_92 rfl (lv_at hl 0 rfl) ?_
            refine g3_4 hx hb hts hi3 hown hK hW (k := a0) ha0 (hts _ (wm 5 rfl)) dX3_property_93 ?_
            rw [← Option.some.inj hr]
            exact xiret hx hb hr0 hlocks hW adR_rf dX3_property_96
          · have hr := br_n c1_4 hr
            by_cases c1_5 : x1 = (5 : Int32)
            · have hr := br_p c1_5 hr
              refine lv_tableIn (tgt := 97) hx hb dX3_property_1 (by rw [c1_5]; decide) (by rw [c1_5]; decide) (off := 96) (by rw [c1_5]; decide) (by decide) ?_
              refine lv_aload_n hx hb dX3_property_97 rfl (lv_at hl 0 rfl) ?_
              refine g3_5 hx hb hts hi3 hown hK hW (k := a0) ha0 (hts _ (wm 6 rfl)) dX3_property_98 ?_
              refine lv_if_eq (tgt := 111) hx hb dX3_property_101 (by decide) (fun c1 => ?_) (fun c1 => ?_)
              · have hr := br_p c1 hr
                refine lv_ldc (v := (-2000000005 : Int32)) hx hb hown (hts _ (wm 8 rfl)) dX3_property_111 ?_
                rw [← Option.some.inj hr]
                exact xiret hx hb hr0 hlocks hW adR_rf dX3_property_113
              · have hr := br_n c1 hr
                refine lv_aload_n hx hb dX3_property_104 rfl (lv_at hl 0 rfl) ?_
                refine g3_6 hx hb hts hi3 hown hK hW (k := a0) ha0 (hts _ (wm 7 rfl)) dX3_property_105 ?_
                refine lv_goto (tgt := 113) hx hb dX3_property_108 (by decide) ?_
                rw [← Option.some.inj hr]
                exact xiret hx hb hr0 hlocks hW adR_rf dX3_property_113
            · have hr := br_n c1_5 hr
              by_cases c1_6 : x1 = (6 : Int32)
              · have hr := br_p c1_6 hr
                refine lv_tableIn (tgt := 114) hx hb dX3_property_1 (by rw [c1_6]; decide) (by rw [c1_6]; decide) (off := 113) (by rw [c1_6]; decide) (by decide) ?_
                refine lv_aload_n hx hb dX3_property_114 rfl (lv_at hl 0 rfl) ?_
                refine g3_5 hx hb hts hi3 hown hK hW (k := a0) ha0 (hts _ (wm 6 rfl)) dX3_property_115 ?_
                refine lv_if_eq (tgt := 128) hx hb dX3_property_118 (by decide) (fun c1 => ?_) (fun c1 => ?_)
                · have hr := br_p c1 hr
                  refine lv_ldc (v := (-2000000005 : Int32)) hx hb hown (hts _ (wm 8 rfl)) dX3_property_128 ?_
                  rw [← Option.some.inj hr]
                  exact xiret hx hb hr0 hlocks hW adR_rf dX3_property_130
                · have hr := br_n c1 hr
                  refine lv_aload_n hx hb dX3_property_121 rfl (lv_at hl 0 rfl) ?_
                  refine g3_7 hx hb hts hi3 hown hK hW (k := a0) ha0 (hts _ (wm 9 rfl)) dX3_property_122 ?_
                  refine lv_goto (tgt := 130) hx hb dX3_property_125 (by decide) ?_
                  rw [← Option.some.inj hr]
                  exact xiret hx hb hr0 hlocks hW adR_rf dX3_property_130
              · have hr := br_n c1_6 hr
                by_cases c1_7 : x1 = (7 : Int32)
                · have hr := br_p c1_7 hr
                  refine lv_tableIn (tgt := 131) hx hb dX3_property_1 (by rw [c1_7]; decide) (by rw [c1_7]; decide) (off := 130) (by rw [c1_7]; decide) (by decide) ?_
                  refine lv_aload_n hx hb dX3_property_131 rfl (lv_at hl 0 rfl) ?_
                  refine g3_8 hx hb hts hi3 hown hK hW (k := a0) ha0 (hts _ (wm 10 rfl)) dX3_property_132 ?_
                  refine lv_if_eq (tgt := 145) hx hb dX3_property_135 (by decide) (fun c1 => ?_) (fun c1 => ?_)
                  · have hr := br_p c1 hr
                    refine lv_ldc (v := (-2000000005 : Int32)) hx hb hown (hts _ (wm 8 rfl)) dX3_property_145 ?_
                    rw [← Option.some.inj hr]
                    exact xiret hx hb hr0 hlocks hW adR_rf dX3_property_147
                  · have hr := br_n c1 hr
                    refine lv_aload_n hx hb dX3_property_138 rfl (lv_at hl 0 rfl) ?_
                    refine g3_9 hx hb hts hi3 hown hK hW (k := a0) ha0 (hts _ (wm 11 rfl)) dX3_property_139 ?_
                    refine lv_goto (tgt := 147) hx hb dX3_property_142 (by decide) ?_
                    rw [← Option.some.inj hr]
                    exact xiret hx hb hr0 hlocks hW adR_rf dX3_property_147
                · have hr := br_n c1_7 hr
                  by_cases c1_8 : x1 = (8 : Int32)
                  · have hr := br_p c1_8 hr
                    refine lv_tableIn (tgt := 148) hx hb dX3_property_1 (by rw [c1_8]; decide) (by rw [c1_8]; decide) (off := 147) (by rw [c1_8]; decide) (by decide) ?_
                    refine lv_aload_n hx hb dX3_property_148 rfl (lv_at hl 0 rfl) ?_
                    refine g3_10 hx hb hts hi3 hown hK hW (k := a0) ha0 (hts _ (wm 12 rfl)) dX3_property_149 ?_
                    rw [← Option.some.inj hr]
                    exact xiret hx hb hr0 hlocks hW adR_rf dX3_property_152
                  · have hr := br_n c1_8 hr
                    by_cases c1_9 : x1 = (9 : Int32)
                    · have hr := br_p c1_9 hr
                      refine lv_tableIn (tgt := 153) hx hb dX3_property_1 (by rw [c1_9]; decide) (by rw [c1_9]; decide) (off := 152) (by rw [c1_9]; decide) (by decide) ?_
                      refine lv_aload_n hx hb dX3_property_153 rfl (lv_at hl 0 rfl) ?_
                      refine g3_11 hx hb hts hi3 hown hK hW (k := a0) ha0 (hts _ (wm 13 rfl)) dX3_property_154 ?_
                      rw [← Option.some.inj hr]
                      exact xiret hx hb hr0 hlocks hW adR_rf dX3_property_157
                    · have hr := br_n c1_9 hr
                      by_cases c1_10 : x1 = (10 : Int32)
                      · have hr := br_p c1_10 hr
                        refine lv_tableIn (tgt := 158) hx hb dX3_property_1 (by rw [c1_10]; decide) (by rw [c1_10]; decide) (off := 157) (by rw [c1_10]; decide) (by decide) ?_
                        refine lv_aload_n hx hb dX3_property_158 rfl (lv_at hl 0 rfl) ?_
                        refine g3_12 hx hb hts hi3 hown hK hW (k := a0) ha0 (hts _ (wm 14 rfl)) dX3_property_159 ?_
                        rw [← Option.some.inj hr]
                        exact xiret hx hb hr0 hlocks hW adR_rf dX3_property_162
                      · have hr := br_n c1_10 hr
                        by_cases c1_11 : x1 = (11 : Int32)
                        · have hr := br_p c1_11 hr
                          refine lv_tableIn (tgt := 163) hx hb dX3_property_1 (by rw [c1_11]; decide) (by rw [c1_11]; decide) (off := 162) (by rw [c1_11]; decide) (by decide) ?_
                          refine lv_aload_n hx hb dX3_property_163 rfl (lv_at hl 0 rfl) ?_
                          refine g3_13 hx hb hts hi3 hown hK hW (k := a0) ha0 (hts _ (wm 15 rfl)) dX3_property_164 ?_
                          rw [← Option.some.inj hr]
                          exact xiret hx hb hr0 hlocks hW adR_rf dX3_property_167
                        · have hr := br_n c1_11 hr
                          by_cases c1_12 : x1 = (12 : Int32)
                          · have hr := br_p c1_12 hr
                            refine lv_tableIn (tgt := 168) hx hb dX3_property_1 (by rw [c1_12]; decide) (by rw [c1_12]; decide) (off := 167) (by rw [c1_12]; decide) (by decide) ?_
                            refine lv_aload_n hx hb dX3_property_168 rfl (lv_at hl 0 rfl) ?_
                            refine g3_14 hx hb hts hi3 hown hK hW (k := a0) ha0 (hts _ (wm 16 rfl)) dX3_property_169 ?_
                            rw [← Option.some.inj hr]
                            exact xiret hx hb hr0 hlocks hW adR_rf dX3_property_172
                          · have hr := br_n c1_12 hr
                            by_cases c1_13 : x1 = (13 : Int32)
                            · have hr := br_p c1_13 hr
                              refine lv_tableIn (tgt := 173) hx hb dX3_property_1 (by rw [c1_13]; decide) (by rw [c1_13]; decide) (off := 172) (by rw [c1_13]; decide) (by decide) ?_
                              refine lv_aload_n hx hb dX3_property_173 rfl (lv_at hl 0 rfl) ?_
                              obtain ⟨r_1, hc174, hr⟩ := ob1_e hr
                              refine xk_i (va_runV (As := []) (rest := []) ⟨hx, hb, hml, hown, hts⟩ (c_X3_fails l D cA ad M a0 ha0 hc174) (cwV 0 hts gX3_property_X3_fails rfl rfl rfl (by decide +kernel) ⟨Nat.le_of_ble_eq_true rfl, Nat.le_of_ble_eq_true rfl⟩) (xpreV hK hW (k := a0) ha0 (by decide) rfl) rfl rfl hl.1 rfl (lv_room (Nat.le_of_ble_eq_true rfl)) dX3_property_174 ⟨Nat.le_of_ble_eq_true rfl, Nat.le_of_ble_eq_true rfl⟩) hW (fun H locs hW => ?_)
                              obtain ⟨r_2, hc177, hr⟩ := ob1_e hr
                              refine xk_i (va_runSN (As := [.int r_1]) (rest := []) ⟨hx, hb, hml, hown, hts⟩ (c_X10_asNumber l D cA ad M r_1 hc177) ⟨va_cnB 1 hts gX3_property_X10_asNumber_n78 rfl rfl rfl hK.2.2.2.2.2.2.2.2.2.2.2.2.2.2.2.2.2.2.2.1 (hts _ (wm 24 rfl)) (by decide +kernel) ⟨Nat.le_of_ble_eq_true rfl, Nat.le_of_ble_eq_true rfl⟩, (hts _ (wm 23 rfl)), trivial⟩ (xpreS hK hW) rfl rfl hl.1 rfl (lv_room (Nat.le_of_ble_eq_true rfl)) dX3_property_177 ⟨Nat.le_of_ble_eq_true rfl, Nat.le_of_ble_eq_true rfl⟩) hW (fun H locs hW => ?_)
                              rw [← Option.some.inj hr]
                              exact xiret hx hb hr0 hlocks hW adR_rf dX3_property_180
                            · have hr := br_n c1_13 hr
                              have hsw : x1.toInt < 0 ∨ 13 < x1.toInt := by
                                have hsw0 := lv_neT c1_0 (a := 0) rfl
                                have hsw1 := lv_neT c1_1 (a := 1) rfl
                                have hsw2 := lv_neT c1_2 (a := 2) rfl
                                have hsw3 := lv_neT c1_3 (a := 3) rfl
                                have hsw4 := lv_neT c1_4 (a := 4) rfl
                                have hsw5 := lv_neT c1_5 (a := 5) rfl
                                have hsw6 := lv_neT c1_6 (a := 6) rfl
                                have hsw7 := lv_neT c1_7 (a := 7) rfl
                                have hsw8 := lv_neT c1_8 (a := 8) rfl
                                have hsw9 := lv_neT c1_9 (a := 9) rfl
                                have hsw10 := lv_neT c1_10 (a := 10) rfl
                                have hsw11 := lv_neT c1_11 (a := 11) rfl
                                have hsw12 := lv_neT c1_12 (a := 12) rfl
                                have hsw13 := lv_neT c1_13 (a := 13) rfl
                                omega
                              refine lv_tableOut (tgt := 181) hx hb dX3_property_1 hsw (by decide) ?_
                              refine lv_ldc (v := (-2000000002 : Int32)) hx hb hown (hts _ (wm 17 rfl)) dX3_property_181 ?_
                              rw [← Option.some.inj hr]
                              exact xiret hx hb hr0 hlocks hW adR_rf dX3_property_183

set_option maxHeartbeats 4000000 in
set_option maxRecDepth 100000 in
theorem c_X3_canTake (l : Launch) (D : va_G) (cA : Nat → ClassId) (ad : Nat → Nat) (M : Mm) (a0 : Nat) (x1 : Int32) {r : Int32} (ha0 : KS true a0 = 3) (hr : f_X3_canTake a0 x1 M = some r) : Met l yX3_canTake wsX3_canTake ({ frames := 1, cells := 0, slots := 0, locals := 22 }) (PcX D true cA ad M [.ref (ad a0), .int x1]) (QiX false D true cA ad r M) 0 0 (AX true ad) := by
  refine Met.ofW (cc := cX3_canTake) (maxL := 2) (ret := (some .boolean)) (by decide) rfl ?_
  intro p e s m args below meth c s₁ B hml hv
  obtain ⟨hav, hP0, hK⟩ := hv
  have hx := B.exec
  have hb := B.bytes
  have hr0 := B.returns
  have hts := atoms_spec (ws := wsX3_canTake) B.pre
  have hown : s.vm.findClass RX3 = some m.cls := findClass_of_methodNamed B.named
  have hlocks := B.notSynchronized
  have hW := xstart hP0
  have hl := lv_entry ([.ref (ad a0), .int x1]) (n := 2) (Nat.le_of_ble_eq_true rfl)
  have hef := lg_entry_eq m ([.ref (ad a0), .int x1]) 2
  rw [← hav] at hef
  rw [hef]
  clear hef
  generalize (lg_sl ([.ref (ad a0), .int x1]) ++ List.replicate (2 - (lg_sl ([.ref (ad a0), .int x1])).length) Slot.unset).toArray = ls at hl ⊢
  have hl : lv_has ls 2 [(0, .ref (ad a0)), (1, .int x1)] := hl
  clear hP0
  unfold f_X3_canTake at hr
  refine lv_iload_n hx hb dX3_canTake_0 rfl (lv_at hl 1 rfl) ?_
  refine lv_sipush (v := (1000 : Int32)) hx hb dX3_canTake_1 (by decide) ?_
  refine lv_ldc (v := (9999999 : Int32)) hx hb hown (hts _ (wm 1 rfl)) dX3_canTake_4 ?_
  obtain ⟨r_1, hc6, hr⟩ := ob1_e hr
  refine xk_i (va_runSN (As := [.int x1, .int (1000 : Int32), .int (9999999 : Int32)]) (rest := []) ⟨hx, hb, hml, hown, hts⟩ (c_X10_isWithin l D cA ad M x1 (1000 : Int32) (9999999 : Int32) hc6) ⟨va_cnB 3 hts gX3_canTake_X10_isWithin_n84 rfl rfl rfl hK.2.2.2.2.2.2.2.2.1 (hts _ (wm 3 rfl)) (by decide +kernel) ⟨Nat.le_of_ble_eq_true rfl, Nat.le_of_ble_eq_true rfl⟩, (hts _ (wm 2 rfl)), trivial⟩ (xpreS hK hW) rfl rfl hl.1 rfl (lv_room (Nat.le_of_ble_eq_true rfl)) dX3_canTake_6 ⟨Nat.le_of_ble_eq_true rfl, Nat.le_of_ble_eq_true rfl⟩) hW (fun H locs hW => ?_)
  refine lv_if_eq (tgt := 24) hx hb dX3_canTake_9 (by decide) (fun c1 => ?_) (fun c1 => ?_)
  · have hr := br_p c1 hr
    refine lv_iconst (v := (0 : Int32)) hx hb dX3_canTake_24 (by decide) ?_
    rw [← Option.some.inj hr]
    exact xzret hx hb hr0 hlocks hW adR_rf (by decide) dX3_canTake_25
  · have hr := br_n c1 hr
    refine lv_aload_n hx hb dX3_canTake_12 rfl (lv_at hl 0 rfl) ?_
    refine lv_iload_n hx hb dX3_canTake_13 rfl (lv_at hl 1 rfl) ?_
    obtain ⟨r_2, hc14, hr⟩ := ob1_e hr
    refine xk_i (va_runV (As := [.int x1]) (rest := []) ⟨hx, hb, hml, hown, hts⟩ (c_X3_isLateEnough l D cA ad M a0 x1 ha0 hc14) (cwV 1 hts gX3_canTake_X3_isLateEnough rfl rfl rfl (by decide +kernel) ⟨Nat.le_of_ble_eq_true rfl, Nat.le_of_ble_eq_true rfl⟩) (xpreV hK hW (k := a0) ha0 (by decide) rfl) rfl rfl hl.1 rfl (lv_room (Nat.le_of_ble_eq_true rfl)) dX3_canTake_14 ⟨Nat.le_of_ble_eq_true rfl, Nat.le_of_ble_eq_true rfl⟩) hW (fun H locs hW => ?_)
    refine lv_if_eq (tgt := 24) hx hb dX3_canTake_17 (by decide) (fun c1 => ?_) (fun c1 => ?_)
    · have hr := br_p c1 hr
      refine lv_iconst (v := (0 : Int32)) hx hb dX3_canTake_24 (by decide) ?_
      rw [← Option.some.inj hr]
      exact xzret hx hb hr0 hlocks hW adR_rf (by decide) dX3_canTake_25
    · have hr := br_n c1 hr
      refine lv_iconst (v := (1 : Int32)) hx hb dX3_canTake_20 (by decide) ?_
      refine lv_goto (tgt := 25) hx hb dX3_canTake_21 (by decide) ?_
      rw [← Option.some.inj hr]
      exact xzret hx hb hr0 hlocks hW adR_rf (by decide) dX3_canTake_25

set_option maxHeartbeats 4000000 in
set_option maxRecDepth 100000 in
theorem c_X3_speedOfSound (l : Launch) (D : va_G) (cA : Nat → ClassId) (ad : Nat → Nat) (M : Mm) (a0 : Nat) {r : Int64} (ha0 : KS true a0 = 3) (hr : f_X3_speedOfSound a0 M = some r) : Met l yX3_speedOfSound wsX3_speedOfSound ({ frames := 1, cells := 0, slots := 0, locals := 23 }) (PcX D true cA ad M [.ref (ad a0)]) (QlX false D true cA ad r M) 0 0 (AX true ad) := by
  refine Met.ofW (cc := cX3_speedOfSound) (maxL := 5) (ret := (some .long)) (by decide) rfl ?_
  intro p e s m args below meth c s₁ B hml hv
  obtain ⟨hav, hP0, hK⟩ := hv
  have hx := B.exec
  have hb := B.bytes
  have hr0 := B.returns
  have hts := atoms_spec (ws := wsX3_speedOfSound) B.pre
  have hown : s.vm.findClass RX3 = some m.cls := findClass_of_methodNamed B.named
  have hlocks := B.notSynchronized
  have hW := xstart hP0
  have hi3 : ∀ w ∈ wsX30, w ∈ wsX3_speedOfSound := fun w h => List.mem_cons_of_mem _ (List.mem_append_right _ h)
  have hl := lv_entry ([.ref (ad a0)]) (n := 5) (Nat.le_of_ble_eq_true rfl)
  have hef := lg_entry_eq m ([.ref (ad a0)]) 5
  rw [← hav] at hef
  rw [hef]
  clear hef
  generalize (lg_sl ([.ref (ad a0)]) ++ List.replicate (5 - (lg_sl ([.ref (ad a0)])).length) Slot.unset).toArray = ls at hl ⊢
  have hl : lv_has ls 5 [(0, .ref (ad a0))] := hl
  clear hP0
  unfold f_X3_speedOfSound at hr
  refine lv_aload_n hx hb dX3_speedOfSound_0 rfl (lv_at hl 0 rfl) ?_
  refine g3_6 hx hb hts hi3 hown hK hW (k := a0) ha0 (hts _ (wm 1 rfl)) dX3_speedOfSound_1 ?_
  refine lv_aload_n hx hb dX3_speedOfSound_4 rfl (lv_at hl 0 rfl) ?_
  refine g3_4 hx hb hts hi3 hown hK hW (k := a0) ha0 (hts _ (wm 2 rfl)) dX3_speedOfSound_5 ?_
  refine lv_isub hx hb dX3_speedOfSound_8 ?_
  refine lv_i2l hx hb dX3_speedOfSound_9 rfl ?_
  obtain ⟨x1_1, ex1_1, hr⟩ := lt1_e hr
  rw [← ex1_1]
  refine lv_lstore_n (lv' := [(1, .long x1_1), (0, .ref (ad a0))]) hx hb dX3_speedOfSound_10 rfl hl (by decide) rfl (fun ls hl => ?_)
  refine lv_aload_n hx hb dX3_speedOfSound_11 rfl (lv_at hl 1 rfl) ?_
  refine g3_7 hx hb hts hi3 hown hK hW (k := a0) ha0 (hts _ (wm 3 rfl)) dX3_speedOfSound_12 ?_
  refine lv_aload_n hx hb dX3_speedOfSound_15 rfl (lv_at hl 1 rfl) ?_
  refine g3_4 hx hb hts hi3 hown hK hW (k := a0) ha0 (hts _ (wm 2 rfl)) dX3_speedOfSound_16 ?_
  refine lv_isub hx hb dX3_speedOfSound_19 ?_
  refine lv_i2l hx hb dX3_speedOfSound_20 rfl ?_
  obtain ⟨x3_2, ex3_2, hr⟩ := lt1_e hr
  rw [← ex3_2]
  refine lv_lstore_n (lv' := [(3, .long x3_2), (1, .long x1_1), (0, .ref (ad a0))]) hx hb dX3_speedOfSound_21 rfl hl (by decide) rfl (fun ls hl => ?_)
  refine lv_aload_n hx hb dX3_speedOfSound_22 rfl (lv_at hl 2 rfl) ?_
  refine g3_0 hx hb hts hi3 hown hK hW (k := a0) ha0 (hts _ (wm 4 rfl)) dX3_speedOfSound_23 ?_
  refine lv_i2l hx hb dX3_speedOfSound_26 rfl ?_
  refine lv_ldc2 (v := (500000 : Int64)) hx hb hown (hts _ (wm 5 rfl)) dX3_speedOfSound_27 ?_
  refine lv_lmul hx hb dX3_speedOfSound_30 ?_
  refine lv_lload_n hx hb dX3_speedOfSound_31 rfl (lv_at hl 1 rfl) ?_
  refine lv_lload_n hx hb dX3_speedOfSound_32 rfl (lv_at hl 0 rfl) ?_
  refine lv_ladd hx hb dX3_speedOfSound_33 ?_
  refine lv_lmul hx hb dX3_speedOfSound_34 ?_
  refine lv_lload_n hx hb dX3_speedOfSound_35 rfl (lv_at hl 1 rfl) ?_
  refine lv_lload_n hx hb dX3_speedOfSound_36 rfl (lv_at hl 0 rfl) ?_
  refine lv_lmul hx hb dX3_speedOfSound_37 ?_
  refine lv_ldc2 (v := (1000 : Int64)) hx hb hown (hts _ (wm 6 rfl)) dX3_speedOfSound_38 ?_
  refine lv_ldiv hx hb dX3_speedOfSound_41 (by decide) ?_
  obtain ⟨r_3, hc42, hr⟩ := ob1_e hr
  refine xk_l (va_runSN (As := [.long (((Int32.toInt64 (gI M a0 0)) * (500000 : Int64)) * (x1_1 + x3_2)), .long ((x1_1 * x3_2) / (1000 : Int64))]) (rest := []) ⟨hx, hb, hml, hown, hts⟩ (c_X10_quotient l D cA ad M (((Int32.toInt64 (gI M a0 0)) * (500000 : Int64)) * (x1_1 + x3_2)) ((x1_1 * x3_2) / (1000 : Int64)) hc42) ⟨va_cnB 2 hts gX3_speedOfSound_X10_quotient_n94 rfl rfl rfl hK.2.2.2.2.2.2.2.2.2.2.2.1 (hts _ (wm 8 rfl)) (by decide +kernel) ⟨Nat.le_of_ble_eq_true rfl, Nat.le_of_ble_eq_true rfl⟩, (hts _ (wm 7 rfl)), trivial⟩ (xpreS hK hW) rfl rfl hl.1 rfl (lv_room (Nat.le_of_ble_eq_true rfl)) dX3_speedOfSound_42 ⟨Nat.le_of_ble_eq_true rfl, Nat.le_of_ble_eq_true rfl⟩) hW (fun H locs hW => ?_)
  rw [← Option.some.inj hr]
  exact xlret hx hb hr0 hlocks hW adR_rf dX3_speedOfSound_45

set_option maxHeartbeats 4000000 in
set_option maxRecDepth 100000 in
theorem c_X3_idealTime (l : Launch) (D : va_G) (cA : Nat → ClassId) (ad : Nat → Nat) (M : Mm) (a0 : Nat) (x1 : Int32) (x2 : Int32) {r : Int32} (ha0 : KS true a0 = 3) (hr : f_X3_idealTime a0 x1 x2 M = some r) : Met l yX3_idealTime wsX3_idealTime ({ frames := 1, cells := 0, slots := 0, locals := 23 }) (PcX D true cA ad M [.ref (ad a0), .int x1, .int x2]) (QiX false D true cA ad r M) 0 0 (AX true ad) := by
  refine Met.ofW (cc := cX3_idealTime) (maxL := 5) (ret := (some .int)) (by decide) rfl ?_
  intro p e s m args below meth c s₁ B hml hv
  obtain ⟨hav, hP0, hK⟩ := hv
  have hx := B.exec
  have hb := B.bytes
  have hr0 := B.returns
  have hts := atoms_spec (ws := wsX3_idealTime) B.pre
  have hown : s.vm.findClass RX3 = some m.cls := findClass_of_methodNamed B.named
  have hlocks := B.notSynchronized
  have hW := xstart hP0
  have hi3 : ∀ w ∈ wsX30, w ∈ wsX3_idealTime := fun w h => List.mem_cons_of_mem _ (List.mem_append_right _ h)
  have hl := lv_entry ([.ref (ad a0), .int x1, .int x2]) (n := 5) (Nat.le_of_ble_eq_true rfl)
  have hef := lg_entry_eq m ([.ref (ad a0), .int x1, .int x2]) 5
  rw [← hav] at hef
  rw [hef]
  clear hef
  generalize (lg_sl ([.ref (ad a0), .int x1, .int x2]) ++ List.replicate (5 - (lg_sl ([.ref (ad a0), .int x1, .int x2])).length) Slot.unset).toArray = ls at hl ⊢
  have hl : lv_has ls 5 [(0, .ref (ad a0)), (1, .int x1), (2, .int x2)] := hl
  clear hP0
  unfold f_X3_idealTime at hr
  refine lv_iload_n hx hb dX3_idealTime_0 rfl (lv_at hl 1 rfl) ?_
  refine lv_i2l hx hb dX3_idealTime_1 rfl ?_
  refine lv_ldc2 (v := (1000 : Int64)) hx hb hown (hts _ (wm 1 rfl)) dX3_idealTime_2 ?_
  refine lv_lmul hx hb dX3_idealTime_5 ?_
  refine lv_iload_n hx hb dX3_idealTime_6 rfl (lv_at hl 2 rfl) ?_
  refine lv_i2l hx hb dX3_idealTime_7 rfl ?_
  refine lv_aload_n hx hb dX3_idealTime_8 rfl (lv_at hl 0 rfl) ?_
  refine g3_1 hx hb hts hi3 hown hK hW (k := a0) ha0 (hts _ (wm 2 rfl)) dX3_idealTime_9 ?_
  refine lv_i2l hx hb dX3_idealTime_12 rfl ?_
  refine lv_lmul hx hb dX3_idealTime_13 ?_
  refine lv_aload_n hx hb dX3_idealTime_14 rfl (lv_at hl 0 rfl) ?_
  refine g3_0 hx hb hts hi3 hown hK hW (k := a0) ha0 (hts _ (wm 3 rfl)) dX3_idealTime_15 ?_
  refine lv_i2l hx hb dX3_idealTime_18 rfl ?_
  obtain ⟨r_1, hc19, hr⟩ := ob1_e hr
  refine xk_l (va_runSN (As := [.long ((Int32.toInt64 x2) * (Int32.toInt64 (gI M a0 1))), .long (Int32.toInt64 (gI M a0 0))]) (rest := [.long ((Int32.toInt64 x1) * (1000 : Int64))]) ⟨hx, hb, hml, hown, hts⟩ (c_X10_quotient l D cA ad M ((Int32.toInt64 x2) * (Int32.toInt64 (gI M a0 1))) (Int32.toInt64 (gI M a0 0)) hc19) ⟨va_cnB 2 hts gX3_idealTime_X10_quotient_n94 rfl rfl rfl hK.2.2.2.2.2.2.2.2.2.2.2.1 (hts _ (wm 7 rfl)) (by decide +kernel) ⟨Nat.le_of_ble_eq_true rfl, Nat.le_of_ble_eq_true rfl⟩, (hts _ (wm 6 rfl)), trivial⟩ (xpreS hK hW) rfl rfl hl.1 rfl (lv_room (Nat.le_of_ble_eq_true rfl)) dX3_idealTime_19 ⟨Nat.le_of_ble_eq_true rfl, Nat.le_of_ble_eq_true rfl⟩) hW (fun H locs hW => ?_)
  refine lv_ladd hx hb dX3_idealTime_22 ?_
  obtain ⟨x3_2, ex3_2, hr⟩ := lt1_e hr
  rw [← ex3_2]
  refine lv_lstore_n (lv' := [(3, .long x3_2), (0, .ref (ad a0)), (1, .int x1), (2, .int x2)]) hx hb dX3_idealTime_23 rfl hl (by decide) rfl (fun ls hl => ?_)
  refine lv_aload_n hx hb dX3_idealTime_24 rfl (lv_at hl 1 rfl) ?_
  refine g3_0 hx hb hts hi3 hown hK hW (k := a0) ha0 (hts _ (wm 3 rfl)) dX3_idealTime_25 ?_
  refine lv_i2l hx hb dX3_idealTime_28 rfl ?_
  refine lv_ldc2 (v := (1000000000 : Int64)) hx hb hown (hts _ (wm 4 rfl)) dX3_idealTime_29 ?_
  refine lv_lmul hx hb dX3_idealTime_32 ?_
  refine lv_lload_n hx hb dX3_idealTime_33 rfl (lv_at hl 0 rfl) ?_
  obtain ⟨r_3, hc34, hr⟩ := ob1_e hr
  refine xk_l (va_runSN (As := [.long ((Int32.toInt64 (gI M a0 0)) * (1000000000 : Int64)), .long x3_2]) (rest := []) ⟨hx, hb, hml, hown, hts⟩ (c_X10_quotient l D cA ad M ((Int32.toInt64 (gI M a0 0)) * (1000000000 : Int64)) x3_2 hc34) ⟨va_cnB 2 hts gX3_idealTime_X10_quotient_n94 rfl rfl rfl hK.2.2.2.2.2.2.2.2.2.2.2.1 (hts _ (wm 7 rfl)) (by decide +kernel) ⟨Nat.le_of_ble_eq_true rfl, Nat.le_of_ble_eq_true rfl⟩, (hts _ (wm 6 rfl)), trivial⟩ (xpreS hK hW) rfl rfl hl.1 rfl (lv_room (Nat.le_of_ble_eq_true rfl)) dX3_idealTime_34 ⟨Nat.le_of_ble_eq_true rfl, Nat.le_of_ble_eq_true rfl⟩) hW (fun H locs hW => ?_)
  refine lv_l2i hx hb dX3_idealTime_37 rfl ?_
  refine lv_aload_n hx hb dX3_idealTime_38 rfl (lv_at hl 1 rfl) ?_
  refine g3_4 hx hb hts hi3 hown hK hW (k := a0) ha0 (hts _ (wm 5 rfl)) dX3_idealTime_39 ?_
  refine lv_iadd hx hb dX3_idealTime_42 ?_
  rw [← Option.some.inj hr]
  exact xiret hx hb hr0 hlocks hW adR_rf dX3_idealTime_43

set_option maxHeartbeats 4000000 in
set_option maxRecDepth 100000 in
theorem c_X10_wholePeriods (l : Launch) (D : va_G) (cA : Nat → ClassId) (ad : Nat → Nat) (M : Mm) (x0 : Int32) (x1 : Int32) {r : Int32} (hr : f_X10_wholePeriods x0 x1 M = some r) : Met l yX10_wholePeriods wsX10_wholePeriods ({ frames := 1, cells := 0, slots := 0, locals := 30 }) (PcX D true cA ad M [.int x0, .int x1]) (QiX false D true cA ad r M) 0 0 (AX true ad) := by
  refine Met.ofW (cc := cX10_wholePeriods) (maxL := 4) (ret := (some .int)) (by decide) rfl ?_
  intro p e s m args below meth c s₁ B hml hv
  obtain ⟨hav, hP0, hK⟩ := hv
  have hx := B.exec
  have hb := B.bytes
  have hr0 := B.returns
  have hts := atoms_spec (ws := wsX10_wholePeriods) B.pre
  have hown : s.vm.findClass RX10 = some m.cls := findClass_of_methodNamed B.named
  have hlocks := B.notSynchronized
  have hW := xstart hP0
  have hl := lv_entry ([.int x0, .int x1]) (n := 4) (Nat.le_of_ble_eq_true rfl)
  have hef := lg_entry_eq m ([.int x0, .int x1]) 4
  rw [← hav] at hef
  rw [hef]
  clear hef
  generalize (lg_sl ([.int x0, .int x1]) ++ List.replicate (4 - (lg_sl ([.int x0, .int x1])).length) Slot.unset).toArray = ls at hl ⊢
  have hl : lv_has ls 4 [(0, .int x0), (1, .int x1)] := hl
  clear hP0
  unfold f_X10_wholePeriods at hr
  refine lv_iload_n hx hb dX10_wholePeriods_0 rfl (lv_at hl 1 rfl) ?_
  refine lv_if_gt (tgt := 6) hx hb dX10_wholePeriods_1 (by decide) (fun c1 => ?_) (fun c1 => ?_)
  · have hr := br_p c1 hr
    refine lv_iload_n hx hb dX10_wholePeriods_6 rfl (lv_at hl 0 rfl) ?_
    refine va_mabs hx hb (hml.trans hl.1.symm) hown (hts _ (wm 1 rfl)) (hts _ (wm 2 rfl)) (hts _ (wm 3 rfl)) (hts _ (wm 4 rfl)) (Nat.le_of_ble_eq_true rfl) (Nat.le_of_ble_eq_true rfl) (Nat.zero_le _) (Nat.zero_le _) dX10_wholePeriods_7 (show W p l e _ s m _ below meth c _ _ _ _ _ (F0 m _ _ (Value.int (jabs x0) :: _)) from ?_)
    obtain ⟨x2_1, ex2_1, hr⟩ := lt1_e hr
    rw [← ex2_1]
    refine lv_istore_n (lv' := [(2, .int x2_1), (0, .int x0), (1, .int x1)]) hx hb dX10_wholePeriods_10 rfl hl (by decide) rfl (fun ls hl => ?_)
    refine lv_iload_n hx hb dX10_wholePeriods_11 rfl (lv_at hl 0 rfl) ?_
    refine lv_iload_n hx hb dX10_wholePeriods_12 rfl (lv_at hl 2 rfl) ?_
    obtain ⟨hc13, hr⟩ := chk_e hr
    refine lv_idiv hx hb dX10_wholePeriods_13 (of_decide_eq_true hc13) ?_
    obtain ⟨x3_2, ex3_2, hr⟩ := lt1_e hr
    rw [← ex3_2]
    refine lv_istore_n (lv' := [(3, .int x3_2), (2, .int x2_1), (0, .int x0), (1, .int x1)]) hx hb dX10_wholePeriods_14 rfl hl (by decide) rfl (fun ls hl => ?_)
    refine lv_iload_n hx hb dX10_wholePeriods_15 rfl (lv_at hl 1 rfl) ?_
    refine lv_iload_n hx hb dX10_wholePeriods_16 rfl (lv_at hl 3 rfl) ?_
    obtain ⟨hc17, hr⟩ := chk_e hr
    refine lv_irem hx hb dX10_wholePeriods_17 (of_decide_eq_true hc17) ?_
    refine lv_iconst (v := (2 : Int32)) hx hb dX10_wholePeriods_18 (by decide) ?_
    refine lv_imul hx hb dX10_wholePeriods_19 ?_
    refine lv_iload_n hx hb dX10_wholePeriods_20 rfl (lv_at hl 3 rfl) ?_
    obtain ⟨x3_3, hr, hr3⟩ := ob1_e hr
    have hj27_3 : ∀ (H : Heap) (locs : List Loc) (ls : Array Slot), Xw D true cA ad M (AX true ad) s.heap H locs → lv_has ls 4 [(0, .int x0), (3, .int x3_3)] → W p l e (headSpec wsX10_wholePeriods { frames := 1, cells := 0, slots := 0, locals := 30 }).room s m args below meth c H locs 0 0 (MQ below (QiX false D true cA ad r M) args s 0 0 (AX true ad)) (F0 m 27 ls []) := by
      intro H locs ls hW hl
      have hr := hr3
      refine lv_iload_n hx hb dX10_wholePeriods_27 rfl (lv_at hl 0 rfl) ?_
      refine lv_if_ge (tgt := 36) hx hb dX10_wholePeriods_28 (by decide) (fun c1 => ?_) (fun c1 => ?_)
      · have hr := br_p c1 hr
        refine lv_iload_n hx hb dX10_wholePeriods_36 rfl (lv_at hl 1 rfl) ?_
        rw [← Option.some.inj hr]
        exact xiret hx hb hr0 hlocks hW adR_rf dX10_wholePeriods_37
      · have hr := br_n c1 hr
        refine lv_iload_n hx hb dX10_wholePeriods_31 rfl (lv_at hl 1 rfl) ?_
        refine lv_ineg hx hb dX10_wholePeriods_32 ?_
        refine lv_goto (tgt := 37) hx hb dX10_wholePeriods_33 (by decide) ?_
        rw [← Option.some.inj hr]
        exact xiret hx hb hr0 hlocks hW adR_rf dX10_wholePeriods_37
    clear hr3
    refine lv_icmp_le (tgt := 27) hx hb dX10_wholePeriods_21 (by decide) (fun c1 => ?_) (fun c1 => ?_)
    · have hr := br_p c1 hr
      have e1 := Option.some.inj hr
      subst e1
      exact hj27_3 _ _ _ hW (lv_sub hl [2, 0] rfl)
    · have hr := br_n c1 hr
      obtain ⟨x3_4, ex3_4, hr⟩ := lt1_e hr
      refine lv_iinc (v := x3_4) (lv' := [(3, .int x3_4), (2, .int x2_1), (0, .int x0), (1, .int x1)]) hx hb dX10_wholePeriods_24 hl (k := 0) rfl (by rw [ex3_4]; rfl) (by decide) rfl (fun ls hl => ?_)
      have e1 := Option.some.inj hr
      subst e1
      exact hj27_3 _ _ _ hW (lv_sub hl [2, 0] rfl)
  · have hr := br_n c1 hr
    refine lv_iconst (v := (0 : Int32)) hx hb dX10_wholePeriods_4 (by decide) ?_
    rw [← Option.some.inj hr]
    exact xiret hx hb hr0 hlocks hW adR_rf dX10_wholePeriods_5

set_option maxHeartbeats 4000000 in
set_option maxRecDepth 100000 in
theorem c_X2_findShifts (l : Launch) (D : va_G) (cA : Nat → ClassId) (ad : Nat → Nat) (M : Mm) {M' : Mm} (hr : f_X2_findShifts M = some M') : Met l yX2_findShifts wsX2_findShifts ({ frames := 2, cells := 0, slots := 0, locals := 53 }) (PcX D true cA ad M [.ref (ad 232), .ref (ad 0)]) (QvX false D true cA ad M') 0 0 (AX true ad) := by
  refine Met.ofW (cc := cX2_findShifts) (maxL := 5) (ret := none) (by decide) rfl ?_
  intro p e s m args below meth c s₁ B hml hv
  obtain ⟨hav, hP0, hK⟩ := hv
  have hx := B.exec
  have hb := B.bytes
  have hr0 := B.returns
  have hts := atoms_spec (ws := wsX2_findShifts) B.pre
  have hown : s.vm.findClass RX2 = some m.cls := findClass_of_methodNamed B.named
  have hlocks := B.notSynchronized
  have hW := xstart hP0
  have hi2 : ∀ w ∈ wsX20, w ∈ wsX2_findShifts := fun w h => List.mem_cons_of_mem _ (List.mem_append_left _ (List.mem_append_right _ h))
  have hi3 : ∀ w ∈ wsX30, w ∈ wsX2_findShifts := fun w h => List.mem_cons_of_mem _ (List.mem_append_left _ (List.mem_append_left _ (List.mem_append_right _ h)))
  have hi7 : ∀ w ∈ wsX70, w ∈ wsX2_findShifts := fun w h => List.mem_cons_of_mem _ (List.mem_append_right _ h)
  have hi8 : ∀ w ∈ wsX80, w ∈ wsX2_findShifts := fun w h => List.mem_cons_of_mem _ (List.mem_append_left _ (List.mem_append_left _ (List.mem_append_left _ (List.mem_append_right _ h))))
  have hl := lv_entry ([.ref (ad 232), .ref (ad 0)]) (n := 5) (Nat.le_of_ble_eq_true rfl)
  have hef := lg_entry_eq m ([.ref (ad 232), .ref (ad 0)]) 5
  rw [← hav] at hef
  rw [hef]
  clear hef
  generalize (lg_sl ([.ref (ad 232), .ref (ad 0)]) ++ List.replicate (5 - (lg_sl ([.ref (ad 232), .ref (ad 0)])).length) Slot.unset).toArray = ls at hl ⊢
  have hl : lv_has ls 5 [(0, .ref (ad 232)), (1, .ref (ad 0))] := hl
  clear hP0
  unfold f_X2_findShifts at hr
  refine lv_iconst (v := (0 : Int32)) hx hb dX2_findShifts_0 (by decide) ?_
  refine lv_istore_n (lv' := [(2, .int (0 : Int32)), (0, .ref (ad 232)), (1, .ref (ad 0))]) hx hb dX2_findShifts_1 rfl hl (by decide) rfl (fun ls hl => ?_)
  have hL2_1 : ∀ (n : Nat) (x2_1 : Int32) (M_2 : Mm) (H : Heap) (locs : List Loc) (ls : Array Slot), Xw D true cA ad M_2 (AX true ad) s.heap H locs → lv_has ls 5 [(0, .ref (ad 232)), (1, .ref (ad 0)), (2, .int x2_1)] → f_X2_findShifts_L2 n x2_1 M_2 = some M' → W p l e (headSpec wsX2_findShifts { frames := 2, cells := 0, slots := 0, locals := 53 }).room s m args below meth c H locs 0 0 (MQ below (QvX false D true cA ad M') args s 0 0 (AX true ad)) (F0 m 2 ls []) := by
    intro n
    induction n with
    | zero =>
      intro x2_1 M_2 H locs ls hW hl hr
      exact absurd hr (by simp [f_X2_findShifts_L2])
    | succ n ih =>
      intro x2_1 M_2 H locs ls hW hl hr
      rw [f_X2_findShifts_L2] at hr
      refine lv_iload_n hx hb dX2_findShifts_2 rfl (lv_at hl 2 rfl) ?_
      refine lv_iconst (v := (4 : Int32)) hx hb dX2_findShifts_3 (by decide) ?_
      refine lv_icmp_ge (tgt := 138) hx hb dX2_findShifts_4 (by decide) (fun c1 => ?_) (fun c1 => ?_)
      · have hr := br_p c1 hr
        rw [← Option.some.inj hr]
        exact xvret hx hb hr0 hlocks hW adR_rf dX2_findShifts_138
      · have hr := br_n c1 hr
        refine lv_aload_n hx hb dX2_findShifts_7 rfl (lv_at hl 1 rfl) ?_
        refine g8_0 hx hb hts hi8 hown hK hW (k := 0) rfl (hts _ (wm 1 rfl)) dX2_findShifts_8 ?_
        refine lv_iload_n hx hb dX2_findShifts_11 rfl (lv_at hl 2 rfl) ?_
        obtain ⟨hn12, hr⟩ := chk_e hr
        refine xaald hx hb hK hW (k := 1) (t := 50) rfl (by decide) (by decide) rfl (t0 := 3) rfl hn12 dX2_findShifts_12 ?_
        refine lv_astore_n (lv' := [(3, .ref (ad (rid 50 1 (ix x2_1)))), (0, .ref (ad 232)), (1, .ref (ad 0)), (2, .int x2_1)]) hx hb dX2_findShifts_13 rfl hl (by decide) rfl (fun ls hl => ?_)
        refine lv_aload_n hx hb dX2_findShifts_14 rfl (lv_at hl 0 rfl) ?_
        refine g3_15 hx hb hts hi3 hown hK hW (k := (rid 50 1 (ix x2_1))) (ks_50 (k := 1) rfl hn12) (hts _ (wm 2 rfl)) dX2_findShifts_15 ?_
        refine lv_astore (lv' := [(4, .ref (ad ((rid 50 1 (ix x2_1)) + 1))), (3, .ref (ad (rid 50 1 (ix x2_1)))), (0, .ref (ad 232)), (1, .ref (ad 0)), (2, .int x2_1)]) hx hb dX2_findShifts_18 hl (by decide) rfl (fun ls hl => ?_)
        refine lv_aload_n hx hb dX2_findShifts_20 rfl (lv_at hl 2 rfl) ?_
        refine g2_0 hx hb hts hi2 hown hK hW (k := 232) rfl (hts _ (wm 3 rfl)) dX2_findShifts_21 ?_
        refine lv_iload_n hx hb dX2_findShifts_24 rfl (lv_at hl 4 rfl) ?_
        refine lv_aload hx hb dX2_findShifts_25 (lv_at hl 0 rfl) ?_
        refine g7_0 hx hb hts hi7 hown hK hW (k := ((rid 50 1 (ix x2_1)) + 1)) (ks_3s (ks_50 (k := 1) rfl hn12)) (hts _ (wm 4 rfl)) dX2_findShifts_27 ?_
        obtain ⟨y_3, hr, hr3⟩ := ob1_e hr
        have hj59_3 : ∀ (H : Heap) (locs : List Loc) (ls : Array Slot), Xw D true cA ad M_2 (AX true ad) s.heap H locs → lv_has ls 5 [(4, .ref (ad ((rid 50 1 (ix x2_1)) + 1))), (3, .ref (ad (rid 50 1 (ix x2_1)))), (0, .ref (ad 232)), (1, .ref (ad 0)), (2, .int x2_1)] → W p l e (headSpec wsX2_findShifts { frames := 2, cells := 0, slots := 0, locals := 53 }).room s m args below meth c H locs 0 0 (MQ below (QvX false D true cA ad M') args s 0 0 (AX true ad)) (F0 m 59 ls [.int y_3, .int x2_1, .ref (ad 233)]) := by
          intro H locs ls hW hl
          have hr := hr3
          obtain ⟨hn59, hr⟩ := chk_e hr
          obtain ⟨hz59, hr⟩ := chk_e hr
          obtain ⟨M_4, eM_4, hr⟩ := lt1_e hr
          refine xzast hx hb hK hW (k := 233) (t := 30) rfl (by decide) (by decide) rfl (n := 4) hn59 (jx := (ix x2_1)) rfl hz59 dX2_findShifts_59 (fun H locs hW => ?_)
          rw [← eM_4] at hW
          refine lv_aload_n hx hb dX2_findShifts_60 rfl (lv_at hl 2 rfl) ?_
          refine g2_1 hx hb hts hi2 hown hK hW (k := 232) rfl (hts _ (wm 8 rfl)) dX2_findShifts_61 ?_
          refine lv_iload_n hx hb dX2_findShifts_64 rfl (lv_at hl 4 rfl) ?_
          refine lv_aload_n hx hb dX2_findShifts_65 rfl (lv_at hl 2 rfl) ?_
          refine g2_0 hx hb hts hi2 hown hK hW (k := 232) rfl (hts _ (wm 3 rfl)) dX2_findShifts_66 ?_
          refine lv_iload_n hx hb dX2_findShifts_69 rfl (lv_at hl 4 rfl) ?_
          obtain ⟨hn70, hr⟩ := chk_e hr
          refine xzald hx hb hK hW (k := 233) (t := 30) rfl (by decide) (by decide) rfl (n := 4) hn70 (jx := (ix x2_1)) rfl dX2_findShifts_70 ?_
          obtain ⟨y_5, hr, hr3⟩ := ob1_e hr
          have hj95_5 : ∀ (H : Heap) (locs : List Loc) (ls : Array Slot), Xw D true cA ad M_4 (AX true ad) s.heap H locs → lv_has ls 5 [(4, .ref (ad ((rid 50 1 (ix x2_1)) + 1))), (3, .ref (ad (rid 50 1 (ix x2_1)))), (0, .ref (ad 232)), (1, .ref (ad 0)), (2, .int x2_1)] → W p l e (headSpec wsX2_findShifts { frames := 2, cells := 0, slots := 0, locals := 53 }).room s m args below meth c H locs 0 0 (MQ below (QvX false D true cA ad M') args s 0 0 (AX true ad)) (F0 m 95 ls [.int y_5, .int x2_1, .ref (ad 234)]) := by
            intro H locs ls hW hl
            have hr := hr3
            obtain ⟨hn95, hr⟩ := chk_e hr
            obtain ⟨M_7, eM_7, hr⟩ := lt1_e hr
            refine xiast hx hb hK hW (k := 234) (t := 20) rfl (by decide) (by decide) rfl (n := 4) hn95 (jx := (ix x2_1)) rfl dX2_findShifts_95 (fun H locs hW => ?_)
            rw [← eM_7] at hW
            refine lv_aload_n hx hb dX2_findShifts_96 rfl (lv_at hl 2 rfl) ?_
            refine g2_2 hx hb hts hi2 hown hK hW (k := 232) rfl (hts _ (wm 12 rfl)) dX2_findShifts_97 ?_
            refine lv_iload_n hx hb dX2_findShifts_100 rfl (lv_at hl 4 rfl) ?_
            refine lv_aload_n hx hb dX2_findShifts_101 rfl (lv_at hl 2 rfl) ?_
            refine g2_0 hx hb hts hi2 hown hK hW (k := 232) rfl (hts _ (wm 3 rfl)) dX2_findShifts_102 ?_
            refine lv_iload_n hx hb dX2_findShifts_105 rfl (lv_at hl 4 rfl) ?_
            obtain ⟨hn106, hr⟩ := chk_e hr
            refine xzald hx hb hK hW (k := 233) (t := 30) rfl (by decide) (by decide) rfl (n := 4) hn106 (jx := (ix x2_1)) rfl dX2_findShifts_106 ?_
            obtain ⟨y_8, hr, hr3⟩ := ob1_e hr
            have hj131_8 : ∀ (H : Heap) (locs : List Loc) (ls : Array Slot), Xw D true cA ad M_7 (AX true ad) s.heap H locs → lv_has ls 5 [(0, .ref (ad 232)), (1, .ref (ad 0)), (2, .int x2_1)] → W p l e (headSpec wsX2_findShifts { frames := 2, cells := 0, slots := 0, locals := 53 }).room s m args below meth c H locs 0 0 (MQ below (QvX false D true cA ad M') args s 0 0 (AX true ad)) (F0 m 131 ls [.int y_8, .int x2_1, .ref (ad 235)]) := by
              intro H locs ls hW hl
              have hr := hr3
              obtain ⟨hn131, hr⟩ := chk_e hr
              obtain ⟨M_10, eM_10, hr⟩ := lt1_e hr
              refine xiast hx hb hK hW (k := 235) (t := 20) rfl (by decide) (by decide) rfl (n := 4) hn131 (jx := (ix x2_1)) rfl dX2_findShifts_131 (fun H locs hW => ?_)
              rw [← eM_10] at hW
              obtain ⟨x2_11, ex2_11, hr⟩ := lt1_e hr
              refine lv_iinc (v := x2_11) (lv' := [(2, .int x2_11), (0, .ref (ad 232)), (1, .ref (ad 0))]) hx hb dX2_findShifts_132 hl (k := 2) rfl (by rw [ex2_11]; rfl) (by decide) rfl (fun ls hl => ?_)
              refine lv_goto (tgt := 2) hx hb dX2_findShifts_135 (by decide) ?_
              exact ih x2_11 M_10 _ _ _ hW (lv_sub hl [1, 2, 0] rfl) hr
            clear hr3
            refine lv_if_eq (tgt := 130) hx hb dX2_findShifts_107 (by decide) (fun c1 => ?_) (fun c1 => ?_)
            · have hr := br_p c1 hr
              refine lv_iconst (v := (0 : Int32)) hx hb dX2_findShifts_130 (by decide) ?_
              have e1 := Option.some.inj hr
              subst e1
              exact hj131_8 _ _ _ hW (lv_sub hl [2, 3, 4] rfl)
            · have hr := br_n c1 hr
              refine lv_aload hx hb dX2_findShifts_110 (lv_at hl 0 rfl) ?_
              refine g7_2 hx hb hts hi7 hown hK hW (k := ((rid 50 1 (ix x2_1)) + 1)) (ks_3s (ks_50 (k := 1) rfl hn12)) (hts _ (wm 13 rfl)) dX2_findShifts_112 ?_
              refine lv_aload_n hx hb dX2_findShifts_115 rfl (lv_at hl 1 rfl) ?_
              refine g3_7 hx hb hts hi3 hown hK hW (k := (rid 50 1 (ix x2_1))) (ks_50 (k := 1) rfl hn12) (hts _ (wm 14 rfl)) dX2_findShifts_116 ?_
              refine lv_isub hx hb dX2_findShifts_119 ?_
              refine lv_aload_n hx hb dX2_findShifts_120 rfl (lv_at hl 1 rfl) ?_
              refine g3_3 hx hb hts hi3 hown hK hW (k := (rid 50 1 (ix x2_1))) (ks_50 (k := 1) rfl hn12) (hts _ (wm 11 rfl)) dX2_findShifts_121 ?_
              obtain ⟨r_9, hc124, hr⟩ := ob1_e hr
              refine xk_i (va_runSN (As := [.int ((gI M_7 ((rid 50 1 (ix x2_1)) + 1) 2) - (gI M_7 (rid 50 1 (ix x2_1)) 7)), .int (gI M_7 (rid 50 1 (ix x2_1)) 3)]) (rest := [.int x2_1, .ref (ad 235)]) ⟨hx, hb, hml, hown, hts⟩ (c_X10_wholePeriods l D cA ad M_7 ((gI M_7 ((rid 50 1 (ix x2_1)) + 1) 2) - (gI M_7 (rid 50 1 (ix x2_1)) 7)) (gI M_7 (rid 50 1 (ix x2_1)) 3) hc124) ⟨va_cnB 2 hts gX2_findShifts_X10_wholePeriods_n81 rfl rfl rfl hK.2.2.2.2.2.2.2.2.2.2.1 (hts _ (wm 16 rfl)) (by decide +kernel) ⟨Nat.le_of_ble_eq_true rfl, Nat.le_of_ble_eq_true rfl⟩, (hts _ (wm 15 rfl)), trivial⟩ (xpreS hK hW) rfl rfl hl.1 rfl (lv_room (Nat.le_of_ble_eq_true rfl)) dX2_findShifts_124 ⟨Nat.le_of_ble_eq_true rfl, Nat.le_of_ble_eq_true rfl⟩) hW (fun H locs hW => ?_)
              refine lv_goto (tgt := 131) hx hb dX2_findShifts_127 (by decide) ?_
              have e1 := Option.some.inj hr
              subst e1
              exact hj131_8 _ _ _ hW (lv_sub hl [2, 3, 4] rfl)
          clear hr3
          refine lv_if_eq (tgt := 94) hx hb dX2_findShifts_71 (by decide) (fun c1 => ?_) (fun c1 => ?_)
          · have hr := br_p c1 hr
            refine lv_iconst (v := (0 : Int32)) hx hb dX2_findShifts_94 (by decide) ?_
            have e1 := Option.some.inj hr
            subst e1
            exact hj95_5 _ _ _ hW (lv_sub hl [0, 1, 2, 3, 4] rfl)
          · have hr := br_n c1 hr
            refine lv_aload hx hb dX2_findShifts_74 (lv_at hl 0 rfl) ?_
            refine g7_1 hx hb hts hi7 hown hK hW (k := ((rid 50 1 (ix x2_1)) + 1)) (ks_3s (ks_50 (k := 1) rfl hn12)) (hts _ (wm 9 rfl)) dX2_findShifts_76 ?_
            refine lv_aload_n hx hb dX2_findShifts_79 rfl (lv_at hl 1 rfl) ?_
            refine g3_6 hx hb hts hi3 hown hK hW (k := (rid 50 1 (ix x2_1))) (ks_50 (k := 1) rfl hn12) (hts _ (wm 10 rfl)) dX2_findShifts_80 ?_
            refine lv_isub hx hb dX2_findShifts_83 ?_
            refine lv_aload_n hx hb dX2_findShifts_84 rfl (lv_at hl 1 rfl) ?_
            refine g3_3 hx hb hts hi3 hown hK hW (k := (rid 50 1 (ix x2_1))) (ks_50 (k := 1) rfl hn12) (hts _ (wm 11 rfl)) dX2_findShifts_85 ?_
            obtain ⟨r_6, hc88, hr⟩ := ob1_e hr
            refine xk_i (va_runSN (As := [.int ((gI M_4 ((rid 50 1 (ix x2_1)) + 1) 1) - (gI M_4 (rid 50 1 (ix x2_1)) 6)), .int (gI M_4 (rid 50 1 (ix x2_1)) 3)]) (rest := [.int x2_1, .ref (ad 234)]) ⟨hx, hb, hml, hown, hts⟩ (c_X10_wholePeriods l D cA ad M_4 ((gI M_4 ((rid 50 1 (ix x2_1)) + 1) 1) - (gI M_4 (rid 50 1 (ix x2_1)) 6)) (gI M_4 (rid 50 1 (ix x2_1)) 3) hc88) ⟨va_cnB 2 hts gX2_findShifts_X10_wholePeriods_n81 rfl rfl rfl hK.2.2.2.2.2.2.2.2.2.2.1 (hts _ (wm 16 rfl)) (by decide +kernel) ⟨Nat.le_of_ble_eq_true rfl, Nat.le_of_ble_eq_true rfl⟩, (hts _ (wm 15 rfl)), trivial⟩ (xpreS hK hW) rfl rfl hl.1 rfl (lv_room (Nat.le_of_ble_eq_true rfl)) dX2_findShifts_88 ⟨Nat.le_of_ble_eq_true rfl, Nat.le_of_ble_eq_true rfl⟩) hW (fun H locs hW => ?_)
            refine lv_goto (tgt := 95) hx hb dX2_findShifts_91 (by decide) ?_
            have e1 := Option.some.inj hr
            subst e1
            exact hj95_5 _ _ _ hW (lv_sub hl [0, 1, 2, 3, 4] rfl)
        clear hr3
        refine lv_if_eq (tgt := 58) hx hb dX2_findShifts_30 (by decide) (fun c1 => ?_) (fun c1 => ?_)
        · have hr := br_p c1 hr
          refine lv_iconst (v := (0 : Int32)) hx hb dX2_findShifts_58 (by decide) ?_
          have e1 := Option.some.inj hr
          subst e1
          exact hj59_3 _ _ _ hW (lv_sub hl [0, 1, 2, 3, 4] rfl)
        · have hr := br_n c1 hr
          refine lv_aload hx hb dX2_findShifts_33 (lv_at hl 0 rfl) ?_
          refine g7_3 hx hb hts hi7 hown hK hW (k := ((rid 50 1 (ix x2_1)) + 1)) (ks_3s (ks_50 (k := 1) rfl hn12)) (hts _ (wm 5 rfl)) dX2_findShifts_35 ?_
          refine lv_aload_n hx hb dX2_findShifts_38 rfl (lv_at hl 3 rfl) ?_
          refine g8_3 hx hb hts hi8 hown hK hW (k := 0) rfl (hts _ (wm 6 rfl)) dX2_findShifts_39 ?_
          refine lv_iconst (v := (0 : Int32)) hx hb dX2_findShifts_42 (by decide) ?_
          refine xiald hx hb hK hW (k := 13) (t := 21) rfl (by decide) (by decide) rfl (n := 5) (by decide) (jx := 0) (by decide) dX2_findShifts_43 ?_
          refine lv_icmp_lt (tgt := 58) hx hb dX2_findShifts_44 (by decide) (fun c1 => ?_) (fun c1 => ?_)
          · have hr := br_p c1 hr
            refine lv_iconst (v := (0 : Int32)) hx hb dX2_findShifts_58 (by decide) ?_
            have e1 := Option.some.inj hr
            subst e1
            exact hj59_3 _ _ _ hW (lv_sub hl [0, 1, 2, 3, 4] rfl)
          · have hr := br_n c1 hr
            refine lv_aload_n hx hb dX2_findShifts_47 rfl (lv_at hl 1 rfl) ?_
            refine g3_5 hx hb hts hi3 hown hK hW (k := (rid 50 1 (ix x2_1))) (ks_50 (k := 1) rfl hn12) (hts _ (wm 7 rfl)) dX2_findShifts_48 ?_
            refine lv_if_eq (tgt := 58) hx hb dX2_findShifts_51 (by decide) (fun c1 => ?_) (fun c1 => ?_)
            · have hr := br_p c1 hr
              refine lv_iconst (v := (0 : Int32)) hx hb dX2_findShifts_58 (by decide) ?_
              have e1 := Option.some.inj hr
              subst e1
              exact hj59_3 _ _ _ hW (lv_sub hl [0, 1, 2, 3, 4] rfl)
            · have hr := br_n c1 hr
              refine lv_iconst (v := (1 : Int32)) hx hb dX2_findShifts_54 (by decide) ?_
              refine lv_goto (tgt := 59) hx hb dX2_findShifts_55 (by decide) ?_
              have e1 := Option.some.inj hr
              subst e1
              exact hj59_3 _ _ _ hW (lv_sub hl [0, 1, 2, 3, 4] rfl)
  exact hL2_1 1000 (0 : Int32) M _ _ _ hW (lv_sub hl [1, 2, 0] rfl) hr

set_option maxHeartbeats 4000000 in
set_option maxRecDepth 100000 in
theorem c_X2_votingWeight (l : Launch) (D : va_G) (cA : Nat → ClassId) (ad : Nat → Nat) (M : Mm) {r : Int32} (hr : f_X2_votingWeight M = some r) : Met l yX2_votingWeight wsX2_votingWeight ({ frames := 0, cells := 0, slots := 0, locals := 0 }) (PcX D true cA ad M [.ref (ad 232), .ref (ad 0)]) (QiX false D true cA ad r M) 0 0 (AX true ad) := by
  refine Met.ofW (cc := cX2_votingWeight) (maxL := 4) (ret := (some .int)) (by decide) rfl ?_
  intro p e s m args below meth c s₁ B hml hv
  obtain ⟨hav, hP0, hK⟩ := hv
  have hx := B.exec
  have hb := B.bytes
  have hr0 := B.returns
  have hts := atoms_spec (ws := wsX2_votingWeight) B.pre
  have hown : s.vm.findClass RX2 = some m.cls := findClass_of_methodNamed B.named
  have hlocks := B.notSynchronized
  have hW := xstart hP0
  have hi2 : ∀ w ∈ wsX20, w ∈ wsX2_votingWeight := fun w h => List.mem_cons_of_mem _ (List.mem_append_left _ (List.mem_append_left _ (List.mem_append_right _ h)))
  have hi3 : ∀ w ∈ wsX30, w ∈ wsX2_votingWeight := fun w h => List.mem_cons_of_mem _ (List.mem_append_right _ h)
  have hi8 : ∀ w ∈ wsX80, w ∈ wsX2_votingWeight := fun w h => List.mem_cons_of_mem _ (List.mem_append_left _ (List.mem_append_right _ h))
  have hl := lv_entry ([.ref (ad 232), .ref (ad 0)]) (n := 4) (Nat.le_of_ble_eq_true rfl)
  have hef := lg_entry_eq m ([.ref (ad 232), .ref (ad 0)]) 4
  rw [← hav] at hef
  rw [hef]
  clear hef
  generalize (lg_sl ([.ref (ad 232), .ref (ad 0)]) ++ List.replicate (4 - (lg_sl ([.ref (ad 232), .ref (ad 0)])).length) Slot.unset).toArray = ls at hl ⊢
  have hl : lv_has ls 4 [(0, .ref (ad 232)), (1, .ref (ad 0))] := hl
  clear hP0
  unfold f_X2_votingWeight at hr
  refine lv_iconst (v := (0 : Int32)) hx hb dX2_votingWeight_0 (by decide) ?_
  refine lv_istore_n (lv' := [(2, .int (0 : Int32)), (0, .ref (ad 232)), (1, .ref (ad 0))]) hx hb dX2_votingWeight_1 rfl hl (by decide) rfl (fun ls hl => ?_)
  refine lv_iconst (v := (0 : Int32)) hx hb dX2_votingWeight_2 (by decide) ?_
  refine lv_istore_n (lv' := [(3, .int (0 : Int32)), (2, .int (0 : Int32)), (0, .ref (ad 232)), (1, .ref (ad 0))]) hx hb dX2_votingWeight_3 rfl hl (by decide) rfl (fun ls hl => ?_)
  have hL4_1 : ∀ (n : Nat) (x2_1 : Int32) (x3_2 : Int32) (H : Heap) (locs : List Loc) (ls : Array Slot) (x2_3 : Int32), Xw D true cA ad M (AX true ad) s.heap H locs → lv_has ls 4 [(0, .ref (ad 232)), (1, .ref (ad 0)), (2, .int x2_1), (3, .int x3_2)] → f_X2_votingWeight_L4 M n x2_1 x3_2 = some x2_3 → (∀ (H : Heap) (locs : List Loc) (ls : Array Slot), Xw D true cA ad M (AX true ad) s.heap H locs → lv_has ls 4 [(2, .int x2_3)] → W p l e (headSpec wsX2_votingWeight { frames := 0, cells := 0, slots := 0, locals := 0 }).room s m args below meth c H locs 0 0 (MQ below (QiX false D true cA ad r M) args s 0 0 (AX true ad)) (F0 m 40 ls [])) → W p l e (headSpec wsX2_votingWeight { frames := 0, cells := 0, slots := 0, locals := 0 }).room s m args below meth c H locs 0 0 (MQ below (QiX false D true cA ad r M) args s 0 0 (AX true ad)) (F0 m 4 ls []) := by
    intro n
    induction n with
    | zero =>
      intro x2_1 x3_2 H locs ls x2_3 hW hl hr hk
      exact absurd hr (by simp [f_X2_votingWeight_L4])
    | succ n ih =>
      intro x2_1 x3_2 H locs ls x2_3 hW hl hr hk
      rw [f_X2_votingWeight_L4] at hr
      refine lv_iload_n hx hb dX2_votingWeight_4 rfl (lv_at hl 3 rfl) ?_
      refine lv_iconst (v := (4 : Int32)) hx hb dX2_votingWeight_5 (by decide) ?_
      refine lv_icmp_ge (tgt := 40) hx hb dX2_votingWeight_6 (by decide) (fun c1 => ?_) (fun c1 => ?_)
      · have hr := br_p c1 hr
        have e1 := Option.some.inj hr
        subst e1
        exact hk _ _ _ hW (lv_sub hl [2] rfl)
      · have hr := br_n c1 hr
        refine lv_iload_n hx hb dX2_votingWeight_9 rfl (lv_at hl 2 rfl) ?_
        refine lv_aload_n hx hb dX2_votingWeight_10 rfl (lv_at hl 0 rfl) ?_
        refine g2_0 hx hb hts hi2 hown hK hW (k := 232) rfl (hts _ (wm 1 rfl)) dX2_votingWeight_11 ?_
        refine lv_iload_n hx hb dX2_votingWeight_14 rfl (lv_at hl 3 rfl) ?_
        obtain ⟨hn15, hr⟩ := chk_e hr
        refine xzald hx hb hK hW (k := 233) (t := 30) rfl (by decide) (by decide) rfl (n := 4) hn15 (jx := (ix x3_2)) rfl dX2_votingWeight_15 ?_
        obtain ⟨y_4, hr, hr3⟩ := ob1_e hr
        have hj32_4 : ∀ (H : Heap) (locs : List Loc) (ls : Array Slot), Xw D true cA ad M (AX true ad) s.heap H locs → lv_has ls 4 [(0, .ref (ad 232)), (1, .ref (ad 0)), (3, .int x3_2)] → W p l e (headSpec wsX2_votingWeight { frames := 0, cells := 0, slots := 0, locals := 0 }).room s m args below meth c H locs 0 0 (MQ below (QiX false D true cA ad r M) args s 0 0 (AX true ad)) (F0 m 32 ls [.int y_4, .int x2_1]) := by
          intro H locs ls hW hl
          have hr := hr3
          refine lv_iadd hx hb dX2_votingWeight_32 ?_
          obtain ⟨x2_5, ex2_5, hr⟩ := lt1_e hr
          rw [← ex2_5]
          refine lv_istore_n (lv' := [(2, .int x2_5), (0, .ref (ad 232)), (1, .ref (ad 0)), (3, .int x3_2)]) hx hb dX2_votingWeight_33 rfl hl (by decide) rfl (fun ls hl => ?_)
          obtain ⟨x3_6, ex3_6, hr⟩ := lt1_e hr
          refine lv_iinc (v := x3_6) (lv' := [(3, .int x3_6), (2, .int x2_5), (0, .ref (ad 232)), (1, .ref (ad 0))]) hx hb dX2_votingWeight_34 hl (k := 3) rfl (by rw [ex3_6]; rfl) (by decide) rfl (fun ls hl => ?_)
          refine lv_goto (tgt := 4) hx hb dX2_votingWeight_37 (by decide) ?_
          exact ih x2_5 x3_6 _ _ _ _ hW (lv_sub hl [2, 3, 1, 0] rfl) hr hk
        clear hr3
        refine lv_if_eq (tgt := 31) hx hb dX2_votingWeight_16 (by decide) (fun c1 => ?_) (fun c1 => ?_)
        · have hr := br_p c1 hr
          refine lv_iconst (v := (0 : Int32)) hx hb dX2_votingWeight_31 (by decide) ?_
          have e1 := Option.some.inj hr
          subst e1
          exact hj32_4 _ _ _ hW (lv_sub hl [0, 1, 3] rfl)
        · have hr := br_n c1 hr
          refine lv_aload_n hx hb dX2_votingWeight_19 rfl (lv_at hl 1 rfl) ?_
          refine g8_0 hx hb hts hi8 hown hK hW (k := 0) rfl (hts _ (wm 2 rfl)) dX2_votingWeight_20 ?_
          refine lv_iload_n hx hb dX2_votingWeight_23 rfl (lv_at hl 3 rfl) ?_
          obtain ⟨hn24, hr⟩ := chk_e hr
          refine xaald hx hb hK hW (k := 1) (t := 50) rfl (by decide) (by decide) rfl (t0 := 3) rfl hn24 dX2_votingWeight_24 ?_
          refine g3_2 hx hb hts hi3 hown hK hW (k := (rid 50 1 (ix x3_2))) (ks_50 (k := 1) rfl hn24) (hts _ (wm 3 rfl)) dX2_votingWeight_25 ?_
          refine lv_goto (tgt := 32) hx hb dX2_votingWeight_28 (by decide) ?_
          have e1 := Option.some.inj hr
          subst e1
          exact hj32_4 _ _ _ hW (lv_sub hl [0, 1, 3] rfl)
  obtain ⟨x2_3, hr, hr3⟩ := ob1_e hr
  refine hL4_1 1000 (0 : Int32) (0 : Int32) _ _ _ x2_3 hW (lv_sub hl [2, 3, 1, 0] rfl) hr (fun H locs ls hW hl => ?_)
  clear hr
  have hr := hr3
  refine lv_iload_n hx hb dX2_votingWeight_40 rfl (lv_at hl 0 rfl) ?_
  rw [← Option.some.inj hr]
  exact xiret hx hb hr0 hlocks hW adR_rf dX2_votingWeight_41

set_option maxHeartbeats 4000000 in
set_option maxRecDepth 100000 in
theorem c_X2_weightOf (l : Launch) (D : va_G) (cA : Nat → ClassId) (ad : Nat → Nat) (M : Mm) (a1 : Nat) (x2 : Int32) {r : Int32} (ha1 : KS true a1 = 20) (hr : f_X2_weightOf a1 x2 M = some r) : Met l yX2_weightOf wsX2_weightOf ({ frames := 0, cells := 0, slots := 0, locals := 0 }) (PcX D true cA ad M [.ref (ad 0), .ref (ad a1), .int x2]) (QiX false D true cA ad r M) 0 0 (AX true ad) := by
  refine Met.ofW (cc := cX2_weightOf) (maxL := 5) (ret := (some .int)) (by decide) rfl ?_
  intro p e s m args below meth c s₁ B hml hv
  obtain ⟨hav, hP0, hK⟩ := hv
  have hx := B.exec
  have hb := B.bytes
  have hr0 := B.returns
  have hts := atoms_spec (ws := wsX2_weightOf) B.pre
  have hown : s.vm.findClass RX2 = some m.cls := findClass_of_methodNamed B.named
  have hlocks := B.notSynchronized
  have hW := xstart hP0
  have hi3 : ∀ w ∈ wsX30, w ∈ wsX2_weightOf := fun w h => List.mem_cons_of_mem _ (List.mem_append_right _ h)
  have hi8 : ∀ w ∈ wsX80, w ∈ wsX2_weightOf := fun w h => List.mem_cons_of_mem _ (List.mem_append_left _ (List.mem_append_right _ h))
  have hl := lv_entry ([.ref (ad 0), .ref (ad a1), .int x2]) (n := 5) (Nat.le_of_ble_eq_true rfl)
  have hef := lg_entry_eq m ([.ref (ad 0), .ref (ad a1), .int x2]) 5
  rw [← hav] at hef
  rw [hef]
  clear hef
  generalize (lg_sl ([.ref (ad 0), .ref (ad a1), .int x2]) ++ List.replicate (5 - (lg_sl ([.ref (ad 0), .ref (ad a1), .int x2])).length) Slot.unset).toArray = ls at hl ⊢
  have hl : lv_has ls 5 [(0, .ref (ad 0)), (1, .ref (ad a1)), (2, .int x2)] := hl
  clear hP0
  unfold f_X2_weightOf at hr
  refine lv_iconst (v := (0 : Int32)) hx hb dX2_weightOf_0 (by decide) ?_
  refine lv_istore_n (lv' := [(3, .int (0 : Int32)), (0, .ref (ad 0)), (1, .ref (ad a1)), (2, .int x2)]) hx hb dX2_weightOf_1 rfl hl (by decide) rfl (fun ls hl => ?_)
  refine lv_iconst (v := (0 : Int32)) hx hb dX2_weightOf_2 (by decide) ?_
  refine lv_istore (lv' := [(4, .int (0 : Int32)), (3, .int (0 : Int32)), (0, .ref (ad 0)), (1, .ref (ad a1)), (2, .int x2)]) hx hb dX2_weightOf_3 hl (by decide) rfl (fun ls hl => ?_)
  have hL5_1 : ∀ (n : Nat) (x3_1 : Int32) (x4_2 : Int32) (H : Heap) (locs : List Loc) (ls : Array Slot) (x3_3 : Int32), Xw D true cA ad M (AX true ad) s.heap H locs → lv_has ls 5 [(0, .ref (ad 0)), (1, .ref (ad a1)), (2, .int x2), (3, .int x3_1), (4, .int x4_2)] → f_X2_weightOf_L5 M a1 x2 n x3_1 x4_2 = some x3_3 → (∀ (H : Heap) (locs : List Loc) (ls : Array Slot), Xw D true cA ad M (AX true ad) s.heap H locs → lv_has ls 5 [(3, .int x3_3)] → W p l e (headSpec wsX2_weightOf { frames := 0, cells := 0, slots := 0, locals := 0 }).room s m args below meth c H locs 0 0 (MQ below (QiX false D true cA ad r M) args s 0 0 (AX true ad)) (F0 m 49 ls [])) → W p l e (headSpec wsX2_weightOf { frames := 0, cells := 0, slots := 0, locals := 0 }).room s m args below meth c H locs 0 0 (MQ below (QiX false D true cA ad r M) args s 0 0 (AX true ad)) (F0 m 5 ls []) := by
    intro n
    induction n with
    | zero =>
      intro x3_1 x4_2 H locs ls x3_3 hW hl hr hk
      exact absurd hr (by simp [f_X2_weightOf_L5])
    | succ n ih =>
      intro x3_1 x4_2 H locs ls x3_3 hW hl hr hk
      rw [f_X2_weightOf_L5] at hr
      refine lv_iload hx hb dX2_weightOf_5 (lv_at hl 4 rfl) ?_
      refine lv_iconst (v := (4 : Int32)) hx hb dX2_weightOf_7 (by decide) ?_
      refine lv_icmp_ge (tgt := 49) hx hb dX2_weightOf_8 (by decide) (fun c1 => ?_) (fun c1 => ?_)
      · have hr := br_p c1 hr
        have e1 := Option.some.inj hr
        subst e1
        exact hk _ _ _ hW (lv_sub hl [3] rfl)
      · have hr := br_n c1 hr
        refine lv_iload hx hb dX2_weightOf_11 (lv_at hl 4 rfl) ?_
        refine lv_aload_n hx hb dX2_weightOf_13 rfl (lv_at hl 1 rfl) ?_
        refine xalen hx hb hK hW (k := a1) (t := 20) ha1 (by decide) (by decide) (v := (4 : Int32)) rfl dX2_weightOf_14 ?_
        refine lv_icmp_ge (tgt := 49) hx hb dX2_weightOf_15 (by decide) (fun c1 => ?_) (fun c1 => ?_)
        · have hr := br_p c1 hr
          have e1 := Option.some.inj hr
          subst e1
          exact hk _ _ _ hW (lv_sub hl [3] rfl)
        · have hr := br_n c1 hr
          refine lv_iload_n hx hb dX2_weightOf_18 rfl (lv_at hl 3 rfl) ?_
          refine lv_aload_n hx hb dX2_weightOf_19 rfl (lv_at hl 1 rfl) ?_
          refine lv_iload hx hb dX2_weightOf_20 (lv_at hl 4 rfl) ?_
          obtain ⟨hn22, hr⟩ := chk_e hr
          refine xiald hx hb hK hW (k := a1) (t := 20) ha1 (by decide) (by decide) rfl (n := 4) hn22 (jx := (ix x4_2)) rfl dX2_weightOf_22 ?_
          refine lv_iload_n hx hb dX2_weightOf_23 rfl (lv_at hl 2 rfl) ?_
          obtain ⟨y_4, hr, hr3⟩ := ob1_e hr
          have hj41_4 : ∀ (H : Heap) (locs : List Loc) (ls : Array Slot), Xw D true cA ad M (AX true ad) s.heap H locs → lv_has ls 5 [(0, .ref (ad 0)), (1, .ref (ad a1)), (2, .int x2), (4, .int x4_2)] → W p l e (headSpec wsX2_weightOf { frames := 0, cells := 0, slots := 0, locals := 0 }).room s m args below meth c H locs 0 0 (MQ below (QiX false D true cA ad r M) args s 0 0 (AX true ad)) (F0 m 41 ls [.int y_4, .int x3_1]) := by
            intro H locs ls hW hl
            have hr := hr3
            refine lv_iadd hx hb dX2_weightOf_41 ?_
            obtain ⟨x3_5, ex3_5, hr⟩ := lt1_e hr
            rw [← ex3_5]
            refine lv_istore_n (lv' := [(3, .int x3_5), (0, .ref (ad 0)), (1, .ref (ad a1)), (2, .int x2), (4, .int x4_2)]) hx hb dX2_weightOf_42 rfl hl (by decide) rfl (fun ls hl => ?_)
            obtain ⟨x4_6, ex4_6, hr⟩ := lt1_e hr
            refine lv_iinc (v := x4_6) (lv' := [(4, .int x4_6), (3, .int x3_5), (0, .ref (ad 0)), (1, .ref (ad a1)), (2, .int x2)]) hx hb dX2_weightOf_43 hl (k := 4) rfl (by rw [ex4_6]; rfl) (by decide) rfl (fun ls hl => ?_)
            refine lv_goto (tgt := 5) hx hb dX2_weightOf_46 (by decide) ?_
            exact ih x3_5 x4_6 _ _ _ _ hW (lv_sub hl [2, 3, 4, 1, 0] rfl) hr hk
          clear hr3
          refine lv_icmp_ne (tgt := 40) hx hb dX2_weightOf_24 (by decide) (fun c1 => ?_) (fun c1 => ?_)
          · have hr := br_n c1 hr
            refine lv_iconst (v := (0 : Int32)) hx hb dX2_weightOf_40 (by decide) ?_
            have e1 := Option.some.inj hr
            subst e1
            exact hj41_4 _ _ _ hW (lv_sub hl [0, 1, 2, 4] rfl)
          · have hr := br_p c1 hr
            refine lv_aload_n hx hb dX2_weightOf_27 rfl (lv_at hl 0 rfl) ?_
            refine g8_0 hx hb hts hi8 hown hK hW (k := 0) rfl (hts _ (wm 1 rfl)) dX2_weightOf_28 ?_
            refine lv_iload hx hb dX2_weightOf_31 (lv_at hl 4 rfl) ?_
            obtain ⟨hn33, hr⟩ := chk_e hr
            refine xaald hx hb hK hW (k := 1) (t := 50) rfl (by decide) (by decide) rfl (t0 := 3) rfl hn33 dX2_weightOf_33 ?_
            refine g3_2 hx hb hts hi3 hown hK hW (k := (rid 50 1 (ix x4_2))) (ks_50 (k := 1) rfl hn33) (hts _ (wm 2 rfl)) dX2_weightOf_34 ?_
            refine lv_goto (tgt := 41) hx hb dX2_weightOf_37 (by decide) ?_
            have e1 := Option.some.inj hr
            subst e1
            exact hj41_4 _ _ _ hW (lv_sub hl [0, 1, 2, 4] rfl)
  obtain ⟨x3_3, hr, hr3⟩ := ob1_e hr
  refine hL5_1 1000 (0 : Int32) (0 : Int32) _ _ _ x3_3 hW (lv_sub hl [2, 3, 4, 1, 0] rfl) hr (fun H locs ls hW hl => ?_)
  clear hr
  have hr := hr3
  refine lv_iload_n hx hb dX2_weightOf_49 rfl (lv_at hl 0 rfl) ?_
  rw [← Option.some.inj hr]
  exact xiret hx hb hr0 hlocks hW adR_rf dX2_weightOf_50

set_option maxHeartbeats 4000000 in
set_option maxRecDepth 100000 in
theorem c_X2_clearShift (l : Launch) (D : va_G) (cA : Nat → ClassId) (ad : Nat → Nat) (M : Mm) (a0 : Nat) (x1 : Int32) {M' : Mm} (ha0 : KS true a0 = 20) (hr : f_X2_clearShift a0 x1 M = some M') : Met l yX2_clearShift wsX2_clearShift ({ frames := 0, cells := 0, slots := 0, locals := 0 }) (PcX D true cA ad M [.ref (ad a0), .int x1]) (QvX false D true cA ad M') 0 0 (AX true ad) := by
  refine Met.ofW (cc := cX2_clearShift) (maxL := 3) (ret := none) (by decide) rfl ?_
  intro p e s m args below meth c s₁ B hml hv
  obtain ⟨hav, hP0, hK⟩ := hv
  have hx := B.exec
  have hb := B.bytes
  have hr0 := B.returns
  have hts := atoms_spec (ws := wsX2_clearShift) B.pre
  have hown : s.vm.findClass RX2 = some m.cls := findClass_of_methodNamed B.named
  have hlocks := B.notSynchronized
  have hW := xstart hP0
  have hl := lv_entry ([.ref (ad a0), .int x1]) (n := 3) (Nat.le_of_ble_eq_true rfl)
  have hef := lg_entry_eq m ([.ref (ad a0), .int x1]) 3
  rw [← hav] at hef
  rw [hef]
  clear hef
  generalize (lg_sl ([.ref (ad a0), .int x1]) ++ List.replicate (3 - (lg_sl ([.ref (ad a0), .int x1])).length) Slot.unset).toArray = ls at hl ⊢
  have hl : lv_has ls 3 [(0, .ref (ad a0)), (1, .int x1)] := hl
  clear hP0
  unfold f_X2_clearShift at hr
  refine lv_iconst (v := (0 : Int32)) hx hb dX2_clearShift_0 (by decide) ?_
  refine lv_istore_n (lv' := [(2, .int (0 : Int32)), (0, .ref (ad a0)), (1, .int x1)]) hx hb dX2_clearShift_1 rfl hl (by decide) rfl (fun ls hl => ?_)
  have hL2_1 : ∀ (n : Nat) (x2_1 : Int32) (M_2 : Mm) (H : Heap) (locs : List Loc) (ls : Array Slot), Xw D true cA ad M_2 (AX true ad) s.heap H locs → lv_has ls 3 [(0, .ref (ad a0)), (1, .int x1), (2, .int x2_1)] → f_X2_clearShift_L2 a0 x1 n x2_1 M_2 = some M' → W p l e (headSpec wsX2_clearShift { frames := 0, cells := 0, slots := 0, locals := 0 }).room s m args below meth c H locs 0 0 (MQ below (QvX false D true cA ad M') args s 0 0 (AX true ad)) (F0 m 2 ls []) := by
    intro n
    induction n with
    | zero =>
      intro x2_1 M_2 H locs ls hW hl hr
      exact absurd hr (by simp [f_X2_clearShift_L2])
    | succ n ih =>
      intro x2_1 M_2 H locs ls hW hl hr
      rw [f_X2_clearShift_L2] at hr
      refine lv_iload_n hx hb dX2_clearShift_2 rfl (lv_at hl 2 rfl) ?_
      refine lv_aload_n hx hb dX2_clearShift_3 rfl (lv_at hl 0 rfl) ?_
      refine xalen hx hb hK hW (k := a0) (t := 20) ha0 (by decide) (by decide) (v := (4 : Int32)) rfl dX2_clearShift_4 ?_
      refine lv_icmp_ge (tgt := 25) hx hb dX2_clearShift_5 (by decide) (fun c1 => ?_) (fun c1 => ?_)
      · have hr := br_p c1 hr
        rw [← Option.some.inj hr]
        exact xvret hx hb hr0 hlocks hW adR_rf dX2_clearShift_25
      · have hr := br_n c1 hr
        refine lv_aload_n hx hb dX2_clearShift_8 rfl (lv_at hl 0 rfl) ?_
        refine lv_iload_n hx hb dX2_clearShift_9 rfl (lv_at hl 2 rfl) ?_
        obtain ⟨hn10, hr⟩ := chk_e hr
        refine xiald hx hb hK hW (k := a0) (t := 20) ha0 (by decide) (by decide) rfl (n := 4) hn10 (jx := (ix x2_1)) rfl dX2_clearShift_10 ?_
        refine lv_iload_n hx hb dX2_clearShift_11 rfl (lv_at hl 1 rfl) ?_
        obtain ⟨M_3, hr, hr3⟩ := ob1_e hr
        have hj19_3 : ∀ (H : Heap) (locs : List Loc) (ls : Array Slot), Xw D true cA ad M_3 (AX true ad) s.heap H locs → lv_has ls 3 [(0, .ref (ad a0)), (1, .int x1), (2, .int x2_1)] → W p l e (headSpec wsX2_clearShift { frames := 0, cells := 0, slots := 0, locals := 0 }).room s m args below meth c H locs 0 0 (MQ below (QvX false D true cA ad M') args s 0 0 (AX true ad)) (F0 m 19 ls []) := by
          intro H locs ls hW hl
          have hr := hr3
          obtain ⟨x2_5, ex2_5, hr⟩ := lt1_e hr
          refine lv_iinc (v := x2_5) (lv' := [(2, .int x2_5), (0, .ref (ad a0)), (1, .int x1)]) hx hb dX2_clearShift_19 hl (k := 2) rfl (by rw [ex2_5]; rfl) (by decide) rfl (fun ls hl => ?_)
          refine lv_goto (tgt := 2) hx hb dX2_clearShift_22 (by decide) ?_
          exact ih x2_5 M_3 _ _ _ hW (lv_sub hl [1, 2, 0] rfl) hr
        clear hr3
        refine lv_icmp_ne (tgt := 19) hx hb dX2_clearShift_12 (by decide) (fun c1 => ?_) (fun c1 => ?_)
        · have hr := br_n c1 hr
          have e1 := Option.some.inj hr
          subst e1
          exact hj19_3 _ _ _ hW (lv_sub hl [0, 1, 2] rfl)
        · have hr := br_p c1 hr
          refine lv_aload_n hx hb dX2_clearShift_15 rfl (lv_at hl 0 rfl) ?_
          refine lv_iload_n hx hb dX2_clearShift_16 rfl (lv_at hl 2 rfl) ?_
          refine lv_iconst (v := (0 : Int32)) hx hb dX2_clearShift_17 (by decide) ?_
          obtain ⟨hn18, hr⟩ := chk_e hr
          obtain ⟨M_4, eM_4, hr⟩ := lt1_e hr
          refine xiast hx hb hK hW (k := a0) (t := 20) ha0 (by decide) (by decide) rfl (n := 4) hn18 (jx := (ix x2_1)) rfl dX2_clearShift_18 (fun H locs hW => ?_)
          rw [← eM_4] at hW
          have e1 := Option.some.inj hr
          subst e1
          exact hj19_3 _ _ _ hW (lv_sub hl [0, 1, 2] rfl)
  exact hL2_1 1000 (0 : Int32) M _ _ _ hW (lv_sub hl [1, 2, 0] rfl) hr

set_option maxHeartbeats 4000000 in
set_option maxRecDepth 100000 in
theorem c_X2_clearTrueShifts (l : Launch) (D : va_G) (cA : Nat → ClassId) (ad : Nat → Nat) (M : Mm) (a2 : Nat) {r : Int32} {M' : Mm} (ha2 : KS true a2 = 20) (hr : f_X2_clearTrueShifts a2 M = some (r, M')) : Met l yX2_clearTrueShifts wsX2_clearTrueShifts ({ frames := 1, cells := 0, slots := 0, locals := 24 }) (PcX D true cA ad M [.ref (ad 232), .ref (ad 0), .ref (ad a2)]) (QiX false D true cA ad r M') 0 0 (AX true ad) := by
  refine Met.ofW (cc := cX2_clearTrueShifts) (maxL := 7) (ret := (some .int)) (by decide) rfl ?_
  intro p e s m args below meth c s₁ B hml hv
  obtain ⟨hav, hP0, hK⟩ := hv
  have hx := B.exec
  have hb := B.bytes
  have hr0 := B.returns
  have hts := atoms_spec (ws := wsX2_clearTrueShifts) B.pre
  have hown : s.vm.findClass RX2 = some m.cls := findClass_of_methodNamed B.named
  have hlocks := B.notSynchronized
  have hW := xstart hP0
  have hi8 : ∀ w ∈ wsX80, w ∈ wsX2_clearTrueShifts := fun w h => List.mem_cons_of_mem _ (List.mem_append_left _ (List.mem_append_left _ (List.mem_append_right _ h)))
  have hl := lv_entry ([.ref (ad 232), .ref (ad 0), .ref (ad a2)]) (n := 7) (Nat.le_of_ble_eq_true rfl)
  have hef := lg_entry_eq m ([.ref (ad 232), .ref (ad 0), .ref (ad a2)]) 7
  rw [← hav] at hef
  rw [hef]
  clear hef
  generalize (lg_sl ([.ref (ad 232), .ref (ad 0), .ref (ad a2)]) ++ List.replicate (7 - (lg_sl ([.ref (ad 232), .ref (ad 0), .ref (ad a2)])).length) Slot.unset).toArray = ls at hl ⊢
  have hl : lv_has ls 7 [(0, .ref (ad 232)), (1, .ref (ad 0)), (2, .ref (ad a2))] := hl
  clear hP0
  unfold f_X2_clearTrueShifts at hr
  refine lv_aload_n hx hb dX2_clearTrueShifts_0 rfl (lv_at hl 0 rfl) ?_
  refine lv_aload_n hx hb dX2_clearTrueShifts_1 rfl (lv_at hl 1 rfl) ?_
  obtain ⟨r_1, hc2, hr⟩ := ob1_e hr
  refine xk_i (va_runV (As := [.ref (ad 0)]) (rest := []) ⟨hx, hb, hml, hown, hts⟩ (c_X2_votingWeight l D cA ad M hc2) (cwV 1 hts gX2_clearTrueShifts_X2_votingWeight rfl rfl rfl (by decide +kernel) ⟨Nat.le_of_ble_eq_true rfl, Nat.le_of_ble_eq_true rfl⟩) (xpreV hK hW (k := 232) rfl (by decide) rfl) rfl rfl hl.1 rfl (lv_room (Nat.le_of_ble_eq_true rfl)) dX2_clearTrueShifts_2 ⟨Nat.le_of_ble_eq_true rfl, Nat.le_of_ble_eq_true rfl⟩) hW (fun H locs hW => ?_)
  refine lv_istore_n (lv' := [(3, .int r_1), (0, .ref (ad 232)), (1, .ref (ad 0)), (2, .ref (ad a2))]) hx hb dX2_clearTrueShifts_5 rfl hl (by decide) rfl (fun ls hl => ?_)
  refine lv_iconst (v := (0 : Int32)) hx hb dX2_clearTrueShifts_6 (by decide) ?_
  refine lv_istore (lv' := [(4, .int (0 : Int32)), (3, .int r_1), (0, .ref (ad 232)), (1, .ref (ad 0)), (2, .ref (ad a2))]) hx hb dX2_clearTrueShifts_7 hl (by decide) rfl (fun ls hl => ?_)
  refine lv_iconst (v := (0 : Int32)) hx hb dX2_clearTrueShifts_9 (by decide) ?_
  refine lv_istore (lv' := [(5, .int (0 : Int32)), (4, .int (0 : Int32)), (3, .int r_1), (0, .ref (ad 232)), (1, .ref (ad 0)), (2, .ref (ad a2))]) hx hb dX2_clearTrueShifts_10 hl (by decide) rfl (fun ls hl => ?_)
  have hL12_1 : ∀ (n : Nat) (x4_2 : Int32) (x5_3 : Int32) (M_4 : Mm) (H : Heap) (locs : List Loc) (ls : Array Slot) (x4_5 : Int32) (M_6 : Mm), Xw D true cA ad M_4 (AX true ad) s.heap H locs → lv_has ls 7 [(3, .int r_1), (1, .ref (ad 0)), (2, .ref (ad a2)), (4, .int x4_2), (5, .int x5_3)] → f_X2_clearTrueShifts_L12 a2 r_1 n x4_2 x5_3 M_4 = some (x4_5, M_6) → (∀ (H : Heap) (locs : List Loc) (ls : Array Slot), Xw D true cA ad M_6 (AX true ad) s.heap H locs → lv_has ls 7 [(4, .int x4_5)] → W p l e (headSpec wsX2_clearTrueShifts { frames := 1, cells := 0, slots := 0, locals := 24 }).room s m args below meth c H locs 0 0 (MQ below (QiX false D true cA ad r M') args s 0 0 (AX true ad)) (F0 m 72 ls [])) → W p l e (headSpec wsX2_clearTrueShifts { frames := 1, cells := 0, slots := 0, locals := 24 }).room s m args below meth c H locs 0 0 (MQ below (QiX false D true cA ad r M') args s 0 0 (AX true ad)) (F0 m 12 ls []) := by
    intro n
    induction n with
    | zero =>
      intro x4_2 x5_3 M_4 H locs ls x4_5 M_6 hW hl hr hk
      exact absurd hr (by simp [f_X2_clearTrueShifts_L12])
    | succ n ih =>
      intro x4_2 x5_3 M_4 H locs ls x4_5 M_6 hW hl hr hk
      rw [f_X2_clearTrueShifts_L12] at hr
      refine lv_iload hx hb dX2_clearTrueShifts_12 (lv_at hl 4 rfl) ?_
      refine lv_iconst (v := (4 : Int32)) hx hb dX2_clearTrueShifts_14 (by decide) ?_
      refine lv_icmp_ge (tgt := 72) hx hb dX2_clearTrueShifts_15 (by decide) (fun c1 => ?_) (fun c1 => ?_)
      · have hr := br_p c1 hr
        obtain ⟨e1, e2⟩ := Prod.mk.inj (Option.some.inj hr)
        subst e1
        subst e2
        exact hk _ _ _ hW (lv_sub hl [3] rfl)
      · have hr := br_n c1 hr
        refine lv_iload hx hb dX2_clearTrueShifts_18 (lv_at hl 4 rfl) ?_
        refine lv_aload_n hx hb dX2_clearTrueShifts_20 rfl (lv_at hl 2 rfl) ?_
        refine xalen hx hb hK hW (k := a2) (t := 20) ha2 (by decide) (by decide) (v := (4 : Int32)) rfl dX2_clearTrueShifts_21 ?_
        refine lv_icmp_ge (tgt := 72) hx hb dX2_clearTrueShifts_22 (by decide) (fun c1 => ?_) (fun c1 => ?_)
        · have hr := br_p c1 hr
          obtain ⟨e1, e2⟩ := Prod.mk.inj (Option.some.inj hr)
          subst e1
          subst e2
          exact hk _ _ _ hW (lv_sub hl [3] rfl)
        · have hr := br_n c1 hr
          refine lv_aload_n hx hb dX2_clearTrueShifts_25 rfl (lv_at hl 2 rfl) ?_
          refine lv_iload hx hb dX2_clearTrueShifts_26 (lv_at hl 4 rfl) ?_
          obtain ⟨hn28, hr⟩ := chk_e hr
          refine xiald hx hb hK hW (k := a2) (t := 20) ha2 (by decide) (by decide) rfl (n := 4) hn28 (jx := (ix x5_3)) rfl dX2_clearTrueShifts_28 ?_
          obtain ⟨x6_7, ex6_7, hr⟩ := lt1_e hr
          rw [← ex6_7]
          refine lv_istore (lv' := [(6, .int x6_7), (3, .int r_1), (1, .ref (ad 0)), (2, .ref (ad a2)), (4, .int x4_2), (5, .int x5_3)]) hx hb dX2_clearTrueShifts_29 hl (by decide) rfl (fun ls hl => ?_)
          refine lv_iload hx hb dX2_clearTrueShifts_31 (lv_at hl 0 rfl) ?_
          obtain ⟨x4_8, M_9, hr, hr3⟩ := ob2_e hr
          have hj66_9 : ∀ (H : Heap) (locs : List Loc) (ls : Array Slot), Xw D true cA ad M_9 (AX true ad) s.heap H locs → lv_has ls 7 [(3, .int r_1), (1, .ref (ad 0)), (2, .ref (ad a2)), (5, .int x5_3), (4, .int x4_8)] → W p l e (headSpec wsX2_clearTrueShifts { frames := 1, cells := 0, slots := 0, locals := 24 }).room s m args below meth c H locs 0 0 (MQ below (QiX false D true cA ad r M') args s 0 0 (AX true ad)) (F0 m 66 ls []) := by
            intro H locs ls hW hl
            have hr := hr3
            obtain ⟨x5_13, ex5_13, hr⟩ := lt1_e hr
            refine lv_iinc (v := x5_13) (lv' := [(5, .int x5_13), (3, .int r_1), (1, .ref (ad 0)), (2, .ref (ad a2)), (4, .int x4_8)]) hx hb dX2_clearTrueShifts_66 hl (k := 3) rfl (by rw [ex5_13]; rfl) (by decide) rfl (fun ls hl => ?_)
            refine lv_goto (tgt := 12) hx hb dX2_clearTrueShifts_69 (by decide) ?_
            exact ih x4_8 x5_13 M_9 _ _ _ _ _ hW (lv_sub hl [1, 2, 3, 4, 0] rfl) hr hk
          clear hr3
          refine lv_if_eq (tgt := 66) hx hb dX2_clearTrueShifts_33 (by decide) (fun c1 => ?_) (fun c1 => ?_)
          · have hr := br_p c1 hr
            obtain ⟨e1, e2⟩ := Prod.mk.inj (Option.some.inj hr)
            subst e1
            subst e2
            exact hj66_9 _ _ _ hW (lv_sub hl [1, 2, 3, 5, 4] rfl)
          · have hr := br_n c1 hr
            refine lv_aload_n hx hb dX2_clearTrueShifts_36 rfl (lv_at hl 2 rfl) ?_
            refine lv_aload_n hx hb dX2_clearTrueShifts_37 rfl (lv_at hl 3 rfl) ?_
            refine lv_iload hx hb dX2_clearTrueShifts_38 (lv_at hl 0 rfl) ?_
            obtain ⟨r_10, hc40, hr⟩ := ob1_e hr
            refine xk_i (va_runS (As := [.ref (ad 0), .ref (ad a2), .int x6_7]) (rest := []) ⟨hx, hb, hml, hown, hts⟩ (c_X2_weightOf l D cA ad M_4 a2 x6_7 ha2 hc40) (va_cwS 3 hts gX2_clearTrueShifts_X2_weightOf rfl rfl rfl (by decide +kernel) ⟨Nat.le_of_ble_eq_true rfl, Nat.le_of_ble_eq_true rfl⟩) (xpreS hK hW) rfl rfl hl.1 rfl (lv_room (Nat.le_of_ble_eq_true rfl)) dX2_clearTrueShifts_40 ⟨Nat.le_of_ble_eq_true rfl, Nat.le_of_ble_eq_true rfl⟩) hW (fun H locs hW => ?_)
            refine lv_bipush (v := (100 : Int32)) hx hb dX2_clearTrueShifts_43 (by decide) ?_
            refine lv_imul hx hb dX2_clearTrueShifts_45 ?_
            refine lv_aload_n hx hb dX2_clearTrueShifts_46 rfl (lv_at hl 2 rfl) ?_
            refine g8_3 hx hb hts hi8 hown hK hW (k := 0) rfl (hts _ (wm 1 rfl)) dX2_clearTrueShifts_47 ?_
            refine lv_iconst (v := (2 : Int32)) hx hb dX2_clearTrueShifts_50 (by decide) ?_
            refine xiald hx hb hK hW (k := 13) (t := 21) rfl (by decide) (by decide) rfl (n := 5) (by decide) (jx := 2) (by decide) dX2_clearTrueShifts_51 ?_
            refine lv_iload_n hx hb dX2_clearTrueShifts_52 rfl (lv_at hl 1 rfl) ?_
            refine lv_imul hx hb dX2_clearTrueShifts_53 ?_
            refine lv_icmp_lt (tgt := 66) hx hb dX2_clearTrueShifts_54 (by decide) (fun c1 => ?_) (fun c1 => ?_)
            · have hr := br_p c1 hr
              obtain ⟨e1, e2⟩ := Prod.mk.inj (Option.some.inj hr)
              subst e1
              subst e2
              exact hj66_9 _ _ _ hW (lv_sub hl [1, 2, 3, 5, 4] rfl)
            · have hr := br_n c1 hr
              refine lv_aload_n hx hb dX2_clearTrueShifts_57 rfl (lv_at hl 3 rfl) ?_
              refine lv_iload hx hb dX2_clearTrueShifts_58 (lv_at hl 0 rfl) ?_
              obtain ⟨M_11, hc60, hr⟩ := ob1_e hr
              refine xk_v (va_runS (As := [.ref (ad a2), .int x6_7]) (rest := []) ⟨hx, hb, hml, hown, hts⟩ (c_X2_clearShift l D cA ad M_4 a2 x6_7 ha2 hc60) (va_cwS 2 hts gX2_clearTrueShifts_X2_clearShift rfl rfl rfl (by decide +kernel) ⟨Nat.le_of_ble_eq_true rfl, Nat.le_of_ble_eq_true rfl⟩) (xpreS hK hW) rfl rfl hl.1 rfl (lv_room (Nat.le_of_ble_eq_true rfl)) dX2_clearTrueShifts_60 ⟨Nat.le_of_ble_eq_true rfl, Nat.le_of_ble_eq_true rfl⟩) hW (fun H locs hW => ?_)
              obtain ⟨x4_12, ex4_12, hr⟩ := lt1_e hr
              refine lv_iinc (v := x4_12) (lv' := [(4, .int x4_12), (6, .int x6_7), (3, .int r_1), (1, .ref (ad 0)), (2, .ref (ad a2)), (5, .int x5_3)]) hx hb dX2_clearTrueShifts_63 hl (k := 4) rfl (by rw [ex4_12]; rfl) (by decide) rfl (fun ls hl => ?_)
              obtain ⟨e1, e2⟩ := Prod.mk.inj (Option.some.inj hr)
              subst e1
              subst e2
              exact hj66_9 _ _ _ hW (lv_sub hl [2, 3, 4, 5, 0] rfl)
  obtain ⟨x4_5, M_6, hr, hr3⟩ := ob2_e hr
  refine hL12_1 1000 (0 : Int32) (0 : Int32) M _ _ _ x4_5 M_6 hW (lv_sub hl [2, 4, 5, 1, 0] rfl) hr (fun H locs ls hW hl => ?_)
  clear hr
  have hr := hr3
  refine lv_iload hx hb dX2_clearTrueShifts_72 (lv_at hl 0 rfl) ?_
  obtain ⟨e1, e2⟩ := Prod.mk.inj (Option.some.inj hr)
  rw [← e1, ← e2]
  exact xiret hx hb hr0 hlocks hW adR_rf dX2_clearTrueShifts_74

set_option maxHeartbeats 4000000 in
set_option maxRecDepth 100000 in
theorem c_X3_isLateEnough (l : Launch) (D : va_G) (cA : Nat → ClassId) (ad : Nat → Nat) (M : Mm) (a0 : Nat) (x1 : Int32) {r : Int32} (ha0 : KS true a0 = 3) (hr : f_X3_isLateEnough a0 x1 M = some r) : Met l yX3_isLateEnough wsX3_isLateEnough ({ frames := 0, cells := 0, slots := 0, locals := 0 }) (PcX D true cA ad M [.ref (ad a0), .int x1]) (QiX false D true cA ad r M) 0 0 (AX true ad) := by
  refine Met.ofW (cc := cX3_isLateEnough) (maxL := 2) (ret := (some .boolean)) (by decide) rfl ?_
  intro p e s m args below meth c s₁ B hml hv
  obtain ⟨hav, hP0, hK⟩ := hv
  have hx := B.exec
  have hb := B.bytes
  have hr0 := B.returns
  have hts := atoms_spec (ws := wsX3_isLateEnough) B.pre
  have hown : s.vm.findClass RX3 = some m.cls := findClass_of_methodNamed B.named
  have hlocks := B.notSynchronized
  have hW := xstart hP0
  have hi3 : ∀ w ∈ wsX30, w ∈ wsX3_isLateEnough := fun w h => List.mem_cons_of_mem _ (List.mem_append_right _ h)
  have hl := lv_entry ([.ref (ad a0), .int x1]) (n := 2) (Nat.le_of_ble_eq_true rfl)
  have hef := lg_entry_eq m ([.ref (ad a0), .int x1]) 2
  rw [← hav] at hef
  rw [hef]
  clear hef
  generalize (lg_sl ([.ref (ad a0), .int x1]) ++ List.replicate (2 - (lg_sl ([.ref (ad a0), .int x1])).length) Slot.unset).toArray = ls at hl ⊢
  have hl : lv_has ls 2 [(0, .ref (ad a0)), (1, .int x1)] := hl
  clear hP0
  unfold f_X3_isLateEnough at hr
  refine lv_iload_n hx hb dX3_isLateEnough_0 rfl (lv_at hl 1 rfl) ?_
  refine lv_aload_n hx hb dX3_isLateEnough_1 rfl (lv_at hl 0 rfl) ?_
  refine g3_4 hx hb hts hi3 hown hK hW (k := a0) ha0 (hts _ (wm 1 rfl)) dX3_isLateEnough_2 ?_
  refine lv_isub hx hb dX3_isLateEnough_5 ?_
  refine lv_sipush (v := (1000 : Int32)) hx hb dX3_isLateEnough_6 (by decide) ?_
  refine lv_icmp_lt (tgt := 16) hx hb dX3_isLateEnough_9 (by decide) (fun c1 => ?_) (fun c1 => ?_)
  · have hr := br_p c1 hr
    refine lv_iconst (v := (0 : Int32)) hx hb dX3_isLateEnough_16 (by decide) ?_
    rw [← Option.some.inj hr]
    exact xzret hx hb hr0 hlocks hW adR_rf (by decide) dX3_isLateEnough_17
  · have hr := br_n c1 hr
    refine lv_iconst (v := (1 : Int32)) hx hb dX3_isLateEnough_12 (by decide) ?_
    refine lv_goto (tgt := 17) hx hb dX3_isLateEnough_13 (by decide) ?_
    rw [← Option.some.inj hr]
    exact xzret hx hb hr0 hlocks hW adR_rf (by decide) dX3_isLateEnough_17

set_option maxHeartbeats 4000000 in
set_option maxRecDepth 100000 in
theorem c_X10_quotient (l : Launch) (D : va_G) (cA : Nat → ClassId) (ad : Nat → Nat) (M : Mm) (x0 : Int64) (x2 : Int64) {r : Int64} (hr : f_X10_quotient x0 x2 M = some r) : Met l yX10_quotient wsX10_quotient ({ frames := 0, cells := 0, slots := 0, locals := 0 }) (PcX D true cA ad M [.long x0, .long x2]) (QlX false D true cA ad r M) 0 0 (AX true ad) := by
  refine Met.ofW (cc := cX10_quotient) (maxL := 4) (ret := (some .long)) (by decide) rfl ?_
  intro p e s m args below meth c s₁ B hml hv
  obtain ⟨hav, hP0, hK⟩ := hv
  have hx := B.exec
  have hb := B.bytes
  have hr0 := B.returns
  have hts := atoms_spec (ws := wsX10_quotient) B.pre
  have hown : s.vm.findClass RX10 = some m.cls := findClass_of_methodNamed B.named
  have hlocks := B.notSynchronized
  have hW := xstart hP0
  have hl := lv_entry ([.long x0, .long x2]) (n := 4) (Nat.le_of_ble_eq_true rfl)
  have hef := lg_entry_eq m ([.long x0, .long x2]) 4
  rw [← hav] at hef
  rw [hef]
  clear hef
  generalize (lg_sl ([.long x0, .long x2]) ++ List.replicate (4 - (lg_sl ([.long x0, .long x2])).length) Slot.unset).toArray = ls at hl ⊢
  have hl : lv_has ls 4 [(0, .long x0), (2, .long x2)] := hl
  clear hP0
  unfold f_X10_quotient at hr
  refine lv_lload_n hx hb dX10_quotient_0 rfl (lv_at hl 1 rfl) ?_
  refine lv_lconst (v := (0 : Int64)) hx hb dX10_quotient_1 (by decide) ?_
  refine xlc_ne (tgt := 10) hx hb dX10_quotient_2 dX10_quotient_3 (by decide) (fun c1 => ?_) (fun c1 => ?_)
  · have hr := br_n c1 hr
    refine lv_lload_n hx hb dX10_quotient_10 rfl (lv_at hl 0 rfl) ?_
    refine lv_lload_n hx hb dX10_quotient_11 rfl (lv_at hl 1 rfl) ?_
    obtain ⟨hc12, hr⟩ := chk_e hr
    refine lv_ldiv hx hb dX10_quotient_12 (of_decide_eq_true hc12) ?_
    rw [← Option.some.inj hr]
    exact xlret hx hb hr0 hlocks hW adR_rf dX10_quotient_13
  · have hr := br_p c1 hr
    refine lv_lconst (v := (0 : Int64)) hx hb dX10_quotient_6 (by decide) ?_
    refine lv_goto (tgt := 13) hx hb dX10_quotient_7 (by decide) ?_
    rw [← Option.some.inj hr]
    exact xlret hx hb hr0 hlocks hW adR_rf dX10_quotient_13

set_option maxHeartbeats 4000000 in
set_option maxRecDepth 100000 in
theorem c_X10_limited (l : Launch) (D : va_G) (cA : Nat → ClassId) (ad : Nat → Nat) (M : Mm) (x0 : Int64) (x2 : Int32) {r : Int32} (hr : f_X10_limited x0 x2 M = some r) : Met l yX10_limited wsX10_limited ({ frames := 0, cells := 0, slots := 0, locals := 0 }) (PcX D true cA ad M [.long x0, .int x2]) (QiX false D true cA ad r M) 0 0 (AX true ad) := by
  refine Met.ofW (cc := cX10_limited) (maxL := 3) (ret := (some .int)) (by decide) rfl ?_
  intro p e s m args below meth c s₁ B hml hv
  obtain ⟨hav, hP0, hK⟩ := hv
  have hx := B.exec
  have hb := B.bytes
  have hr0 := B.returns
  have hts := atoms_spec (ws := wsX10_limited) B.pre
  have hown : s.vm.findClass RX10 = some m.cls := findClass_of_methodNamed B.named
  have hlocks := B.notSynchronized
  have hW := xstart hP0
  have hl := lv_entry ([.long x0, .int x2]) (n := 3) (Nat.le_of_ble_eq_true rfl)
  have hef := lg_entry_eq m ([.long x0, .int x2]) 3
  rw [← hav] at hef
  rw [hef]
  clear hef
  generalize (lg_sl ([.long x0, .int x2]) ++ List.replicate (3 - (lg_sl ([.long x0, .int x2])).length) Slot.unset).toArray = ls at hl ⊢
  have hl : lv_has ls 3 [(0, .long x0), (2, .int x2)] := hl
  clear hP0
  unfold f_X10_limited at hr
  refine lv_lload_n hx hb dX10_limited_0 rfl (lv_at hl 0 rfl) ?_
  refine lv_iload_n hx hb dX10_limited_1 rfl (lv_at hl 1 rfl) ?_
  refine lv_i2l hx hb dX10_limited_2 rfl ?_
  refine xlc_le (tgt := 11) hx hb dX10_limited_3 dX10_limited_4 (by decide) (fun c1 => ?_) (fun c1 => ?_)
  · have hr := br_p c1 hr
    refine lv_lload_n hx hb dX10_limited_11 rfl (lv_at hl 0 rfl) ?_
    refine lv_iload_n hx hb dX10_limited_12 rfl (lv_at hl 1 rfl) ?_
    refine lv_ineg hx hb dX10_limited_13 ?_
    refine lv_i2l hx hb dX10_limited_14 rfl ?_
    refine xlc_ge (tgt := 24) hx hb dX10_limited_15 dX10_limited_16 (by decide) (fun c1 => ?_) (fun c1 => ?_)
    · have hr := br_p c1 hr
      refine lv_lload_n hx hb dX10_limited_24 rfl (lv_at hl 0 rfl) ?_
      refine lv_l2i hx hb dX10_limited_25 rfl ?_
      rw [← Option.some.inj hr]
      exact xiret hx hb hr0 hlocks hW adR_rf dX10_limited_26
    · have hr := br_n c1 hr
      refine lv_iload_n hx hb dX10_limited_19 rfl (lv_at hl 1 rfl) ?_
      refine lv_ineg hx hb dX10_limited_20 ?_
      refine lv_goto (tgt := 26) hx hb dX10_limited_21 (by decide) ?_
      rw [← Option.some.inj hr]
      exact xiret hx hb hr0 hlocks hW adR_rf dX10_limited_26
  · have hr := br_n c1 hr
    refine lv_iload_n hx hb dX10_limited_7 rfl (lv_at hl 1 rfl) ?_
    refine lv_goto (tgt := 26) hx hb dX10_limited_8 (by decide) ?_
    rw [← Option.some.inj hr]
    exact xiret hx hb hr0 hlocks hW adR_rf dX10_limited_26

set_option maxHeartbeats 4000000 in
set_option maxRecDepth 100000 in
theorem c_X3_velocityFrom (l : Launch) (D : va_G) (cA : Nat → ClassId) (ad : Nat → Nat) (M : Mm) (a0 : Nat) (x1 : Int32) (x2 : Int32) {r : Int32} (ha0 : KS true a0 = 3) (hr : f_X3_velocityFrom a0 x1 x2 M = some r) : Met l yX3_velocityFrom wsX3_velocityFrom ({ frames := 1, cells := 0, slots := 0, locals := 23 }) (PcX D true cA ad M [.ref (ad a0), .int x1, .int x2]) (QiX false D true cA ad r M) 0 0 (AX true ad) := by
  refine Met.ofW (cc := cX3_velocityFrom) (maxL := 9) (ret := (some .int)) (by decide) rfl ?_
  intro p e s m args below meth c s₁ B hml hv
  obtain ⟨hav, hP0, hK⟩ := hv
  have hx := B.exec
  have hb := B.bytes
  have hr0 := B.returns
  have hts := atoms_spec (ws := wsX3_velocityFrom) B.pre
  have hown : s.vm.findClass RX3 = some m.cls := findClass_of_methodNamed B.named
  have hlocks := B.notSynchronized
  have hW := xstart hP0
  have hi3 : ∀ w ∈ wsX30, w ∈ wsX3_velocityFrom := fun w h => List.mem_cons_of_mem _ (List.mem_append_right _ h)
  have hl := lv_entry ([.ref (ad a0), .int x1, .int x2]) (n := 9) (Nat.le_of_ble_eq_true rfl)
  have hef := lg_entry_eq m ([.ref (ad a0), .int x1, .int x2]) 9
  rw [← hav] at hef
  rw [hef]
  clear hef
  generalize (lg_sl ([.ref (ad a0), .int x1, .int x2]) ++ List.replicate (9 - (lg_sl ([.ref (ad a0), .int x1, .int x2])).length) Slot.unset).toArray = ls at hl ⊢
  have hl : lv_has ls 9 [(0, .ref (ad a0)), (1, .int x1), (2, .int x2)] := hl
  clear hP0
  unfold f_X3_velocityFrom at hr
  refine lv_iload_n hx hb dX3_velocityFrom_0 rfl (lv_at hl 1 rfl) ?_
  refine lv_aload_n hx hb dX3_velocityFrom_1 rfl (lv_at hl 0 rfl) ?_
  refine g3_4 hx hb hts hi3 hown hK hW (k := a0) ha0 (hts _ (wm 1 rfl)) dX3_velocityFrom_2 ?_
  refine lv_isub hx hb dX3_velocityFrom_5 ?_
  refine lv_i2l hx hb dX3_velocityFrom_6 rfl ?_
  obtain ⟨x3_1, ex3_1, hr⟩ := lt1_e hr
  rw [← ex3_1]
  refine lv_lstore_n (lv' := [(3, .long x3_1), (0, .ref (ad a0)), (1, .int x1), (2, .int x2)]) hx hb dX3_velocityFrom_7 rfl hl (by decide) rfl (fun ls hl => ?_)
  refine lv_iload_n hx hb dX3_velocityFrom_8 rfl (lv_at hl 3 rfl) ?_
  refine lv_aload_n hx hb dX3_velocityFrom_9 rfl (lv_at hl 1 rfl) ?_
  refine g3_4 hx hb hts hi3 hown hK hW (k := a0) ha0 (hts _ (wm 1 rfl)) dX3_velocityFrom_10 ?_
  refine lv_isub hx hb dX3_velocityFrom_13 ?_
  refine lv_i2l hx hb dX3_velocityFrom_14 rfl ?_
  obtain ⟨x5_2, ex5_2, hr⟩ := lt1_e hr
  rw [← ex5_2]
  refine lv_lstore (lv' := [(5, .long x5_2), (3, .long x3_1), (0, .ref (ad a0)), (1, .int x1), (2, .int x2)]) hx hb dX3_velocityFrom_15 hl (by decide) rfl (fun ls hl => ?_)
  refine lv_aload_n hx hb dX3_velocityFrom_17 rfl (lv_at hl 2 rfl) ?_
  refine g3_0 hx hb hts hi3 hown hK hW (k := a0) ha0 (hts _ (wm 2 rfl)) dX3_velocityFrom_18 ?_
  refine lv_i2l hx hb dX3_velocityFrom_21 rfl ?_
  refine lv_aload_n hx hb dX3_velocityFrom_22 rfl (lv_at hl 2 rfl) ?_
  refine g3_0 hx hb hts hi3 hown hK hW (k := a0) ha0 (hts _ (wm 2 rfl)) dX3_velocityFrom_23 ?_
  refine lv_i2l hx hb dX3_velocityFrom_26 rfl ?_
  refine lv_lmul hx hb dX3_velocityFrom_27 ?_
  refine lv_ldc2 (v := (500000 : Int64)) hx hb hown (hts _ (wm 3 rfl)) dX3_velocityFrom_28 ?_
  refine lv_lmul hx hb dX3_velocityFrom_31 ?_
  refine lv_aload_n hx hb dX3_velocityFrom_32 rfl (lv_at hl 2 rfl) ?_
  refine g3_1 hx hb hts hi3 hown hK hW (k := a0) ha0 (hts _ (wm 4 rfl)) dX3_velocityFrom_33 ?_
  refine lv_i2l hx hb dX3_velocityFrom_36 rfl ?_
  obtain ⟨r_3, hc37, hr⟩ := ob1_e hr
  refine xk_l (va_runSN (As := [.long (((Int32.toInt64 (gI M a0 0)) * (Int32.toInt64 (gI M a0 0))) * (500000 : Int64)), .long (Int32.toInt64 (gI M a0 1))]) (rest := []) ⟨hx, hb, hml, hown, hts⟩ (c_X10_quotient l D cA ad M (((Int32.toInt64 (gI M a0 0)) * (Int32.toInt64 (gI M a0 0))) * (500000 : Int64)) (Int32.toInt64 (gI M a0 1)) hc37) ⟨va_cnB 2 hts gX3_velocityFrom_X10_quotient_n94 rfl rfl rfl hK.2.2.2.2.2.2.2.2.2.2.2.1 (hts _ (wm 8 rfl)) (by decide +kernel) ⟨Nat.le_of_ble_eq_true rfl, Nat.le_of_ble_eq_true rfl⟩, (hts _ (wm 7 rfl)), trivial⟩ (xpreS hK hW) rfl rfl hl.1 rfl (lv_room (Nat.le_of_ble_eq_true rfl)) dX3_velocityFrom_37 ⟨Nat.le_of_ble_eq_true rfl, Nat.le_of_ble_eq_true rfl⟩) hW (fun H locs hW => ?_)
  refine lv_lstore (lv' := [(7, .long r_3), (5, .long x5_2), (3, .long x3_1), (0, .ref (ad a0)), (1, .int x1), (2, .int x2)]) hx hb dX3_velocityFrom_40 hl (by decide) rfl (fun ls hl => ?_)
  refine lv_lload hx hb dX3_velocityFrom_42 (lv_at hl 0 rfl) ?_
  refine lv_lload hx hb dX3_velocityFrom_44 (lv_at hl 1 rfl) ?_
  refine lv_lload_n hx hb dX3_velocityFrom_46 rfl (lv_at hl 2 rfl) ?_
  refine lv_lsub hx hb dX3_velocityFrom_47 ?_
  refine lv_lmul hx hb dX3_velocityFrom_48 ?_
  refine lv_lload_n hx hb dX3_velocityFrom_49 rfl (lv_at hl 2 rfl) ?_
  refine lv_lload hx hb dX3_velocityFrom_50 (lv_at hl 1 rfl) ?_
  refine lv_lmul hx hb dX3_velocityFrom_52 ?_
  refine lv_ldc2 (v := (1000 : Int64)) hx hb hown (hts _ (wm 5 rfl)) dX3_velocityFrom_53 ?_
  refine lv_ldiv hx hb dX3_velocityFrom_56 (by decide) ?_
  obtain ⟨r_4, hc57, hr⟩ := ob1_e hr
  refine xk_l (va_runSN (As := [.long (r_3 * (x5_2 - x3_1)), .long ((x3_1 * x5_2) / (1000 : Int64))]) (rest := []) ⟨hx, hb, hml, hown, hts⟩ (c_X10_quotient l D cA ad M (r_3 * (x5_2 - x3_1)) ((x3_1 * x5_2) / (1000 : Int64)) hc57) ⟨va_cnB 2 hts gX3_velocityFrom_X10_quotient_n94 rfl rfl rfl hK.2.2.2.2.2.2.2.2.2.2.2.1 (hts _ (wm 8 rfl)) (by decide +kernel) ⟨Nat.le_of_ble_eq_true rfl, Nat.le_of_ble_eq_true rfl⟩, (hts _ (wm 7 rfl)), trivial⟩ (xpreS hK hW) rfl rfl hl.1 rfl (lv_room (Nat.le_of_ble_eq_true rfl)) dX3_velocityFrom_57 ⟨Nat.le_of_ble_eq_true rfl, Nat.le_of_ble_eq_true rfl⟩) hW (fun H locs hW => ?_)
  refine lv_ldc (v := (100000 : Int32)) hx hb hown (hts _ (wm 6 rfl)) dX3_velocityFrom_60 ?_
  obtain ⟨r_5, hc62, hr⟩ := ob1_e hr
  refine xk_i (va_runSN (As := [.long r_4, .int (100000 : Int32)]) (rest := []) ⟨hx, hb, hml, hown, hts⟩ (c_X10_limited l D cA ad M r_4 (100000 : Int32) hc62) ⟨va_cnB 2 hts gX3_velocityFrom_X10_limited_n101 rfl rfl rfl hK.2.2.2.2.2.2.2.2.2.2.2.2.1 (hts _ (wm 8 rfl)) (by decide +kernel) ⟨Nat.le_of_ble_eq_true rfl, Nat.le_of_ble_eq_true rfl⟩, (hts _ (wm 10 rfl)), trivial⟩ (xpreS hK hW) rfl rfl hl.1 rfl (lv_room (Nat.le_of_ble_eq_true rfl)) dX3_velocityFrom_62 ⟨Nat.le_of_ble_eq_true rfl, Nat.le_of_ble_eq_true rfl⟩) hW (fun H locs hW => ?_)
  rw [← Option.some.inj hr]
  exact xiret hx hb hr0 hlocks hW adR_rf dX3_velocityFrom_65

set_option maxHeartbeats 4000000 in
set_option maxRecDepth 100000 in
theorem c_X2_decideOutcomes (l : Launch) (D : va_G) (cA : Nat → ClassId) (ad : Nat → Nat) (M : Mm) (x2 : Int32) {M' : Mm} (hr : f_X2_decideOutcomes x2 M = some M') : Met l yX2_decideOutcomes wsX2_decideOutcomes ({ frames := 2, cells := 0, slots := 0, locals := 51 }) (PcX D true cA ad M [.ref (ad 232), .ref (ad 0), .int x2]) (QvX false D true cA ad M') 0 0 (AX true ad) := by
  refine Met.ofW (cc := cX2_decideOutcomes) (maxL := 9) (ret := none) (by decide) rfl ?_
  intro p e s m args below meth c s₁ B hml hv
  obtain ⟨hav, hP0, hK⟩ := hv
  have hx := B.exec
  have hb := B.bytes
  have hr0 := B.returns
  have hts := atoms_spec (ws := wsX2_decideOutcomes) B.pre
  have hown : s.vm.findClass RX2 = some m.cls := findClass_of_methodNamed B.named
  have hlocks := B.notSynchronized
  have hW := xstart hP0
  have hi2 : ∀ w ∈ wsX20, w ∈ wsX2_decideOutcomes := fun w h => List.mem_cons_of_mem _ (List.mem_append_left _ (List.mem_append_left _ (List.mem_append_left _ (List.mem_append_right _ h))))
  have hi3 : ∀ w ∈ wsX30, w ∈ wsX2_decideOutcomes := fun w h => List.mem_cons_of_mem _ (List.mem_append_left _ (List.mem_append_right _ h))
  have hi7 : ∀ w ∈ wsX70, w ∈ wsX2_decideOutcomes := fun w h => List.mem_cons_of_mem _ (List.mem_append_right _ h)
  have hi8 : ∀ w ∈ wsX80, w ∈ wsX2_decideOutcomes := fun w h => List.mem_cons_of_mem _ (List.mem_append_left _ (List.mem_append_left _ (List.mem_append_right _ h)))
  have hl := lv_entry ([.ref (ad 232), .ref (ad 0), .int x2]) (n := 9) (Nat.le_of_ble_eq_true rfl)
  have hef := lg_entry_eq m ([.ref (ad 232), .ref (ad 0), .int x2]) 9
  rw [← hav] at hef
  rw [hef]
  clear hef
  generalize (lg_sl ([.ref (ad 232), .ref (ad 0), .int x2]) ++ List.replicate (9 - (lg_sl ([.ref (ad 232), .ref (ad 0), .int x2])).length) Slot.unset).toArray = ls at hl ⊢
  have hl : lv_has ls 9 [(0, .ref (ad 232)), (1, .ref (ad 0)), (2, .int x2)] := hl
  clear hP0
  unfold f_X2_decideOutcomes at hr
  refine lv_aload_n hx hb dX2_decideOutcomes_0 rfl (lv_at hl 0 rfl) ?_
  refine lv_iconst (v := (0 : Int32)) hx hb dX2_decideOutcomes_1 (by decide) ?_
  obtain ⟨M_1, eM_1, hr⟩ := lt1_e hr
  refine p2_6 hx hb hts hi2 hown hK hW (k := 232) rfl (hts _ (wm 1 rfl)) dX2_decideOutcomes_2 (fun H locs hW => ?_)
  rw [← eM_1] at hW
  refine lv_aload_n hx hb dX2_decideOutcomes_5 rfl (lv_at hl 0 rfl) ?_
  refine lv_iconst (v := (0 : Int32)) hx hb dX2_decideOutcomes_6 (by decide) ?_
  obtain ⟨M_2, eM_2, hr⟩ := lt1_e hr
  refine p2_7 hx hb hts hi2 hown hK hW (k := 232) rfl (hts _ (wm 2 rfl)) dX2_decideOutcomes_7 (fun H locs hW => ?_)
  rw [← eM_2] at hW
  refine lv_iconst (v := (0 : Int32)) hx hb dX2_decideOutcomes_10 (by decide) ?_
  refine lv_istore_n (lv' := [(3, .int (0 : Int32)), (0, .ref (ad 232)), (1, .ref (ad 0)), (2, .int x2)]) hx hb dX2_decideOutcomes_11 rfl hl (by decide) rfl (fun ls hl => ?_)
  have hL12_1 : ∀ (n : Nat) (x3_3 : Int32) (M_4 : Mm) (H : Heap) (locs : List Loc) (ls : Array Slot), Xw D true cA ad M_4 (AX true ad) s.heap H locs → lv_has ls 9 [(0, .ref (ad 232)), (1, .ref (ad 0)), (2, .int x2), (3, .int x3_3)] → f_X2_decideOutcomes_L12 x2 n x3_3 M_4 = some M' → W p l e (headSpec wsX2_decideOutcomes { frames := 2, cells := 0, slots := 0, locals := 51 }).room s m args below meth c H locs 0 0 (MQ below (QvX false D true cA ad M') args s 0 0 (AX true ad)) (F0 m 12 ls []) := by
    intro n
    induction n with
    | zero =>
      intro x3_3 M_4 H locs ls hW hl hr
      exact absurd hr (by simp [f_X2_decideOutcomes_L12])
    | succ n ih =>
      intro x3_3 M_4 H locs ls hW hl hr
      rw [f_X2_decideOutcomes_L12] at hr
      refine lv_iload_n hx hb dX2_decideOutcomes_12 rfl (lv_at hl 3 rfl) ?_
      refine lv_iconst (v := (4 : Int32)) hx hb dX2_decideOutcomes_13 (by decide) ?_
      refine lv_icmp_ge (tgt := 251) hx hb dX2_decideOutcomes_14 (by decide) (fun c1 => ?_) (fun c1 => ?_)
      · have hr := br_p c1 hr
        rw [← Option.some.inj hr]
        exact xvret hx hb hr0 hlocks hW adR_rf dX2_decideOutcomes_251
      · have hr := br_n c1 hr
        refine lv_aload_n hx hb dX2_decideOutcomes_17 rfl (lv_at hl 1 rfl) ?_
        refine g8_0 hx hb hts hi8 hown hK hW (k := 0) rfl (hts _ (wm 3 rfl)) dX2_decideOutcomes_18 ?_
        refine lv_iload_n hx hb dX2_decideOutcomes_21 rfl (lv_at hl 3 rfl) ?_
        obtain ⟨hn22, hr⟩ := chk_e hr
        refine xaald hx hb hK hW (k := 1) (t := 50) rfl (by decide) (by decide) rfl (t0 := 3) rfl hn22 dX2_decideOutcomes_22 ?_
        refine lv_astore (lv' := [(4, .ref (ad (rid 50 1 (ix x3_3)))), (0, .ref (ad 232)), (1, .ref (ad 0)), (2, .int x2), (3, .int x3_3)]) hx hb dX2_decideOutcomes_23 hl (by decide) rfl (fun ls hl => ?_)
        refine lv_aload hx hb dX2_decideOutcomes_25 (lv_at hl 0 rfl) ?_
        refine g3_15 hx hb hts hi3 hown hK hW (k := (rid 50 1 (ix x3_3))) (ks_50 (k := 1) rfl hn22) (hts _ (wm 4 rfl)) dX2_decideOutcomes_27 ?_
        refine lv_astore (lv' := [(5, .ref (ad ((rid 50 1 (ix x3_3)) + 1))), (4, .ref (ad (rid 50 1 (ix x3_3)))), (0, .ref (ad 232)), (1, .ref (ad 0)), (2, .int x2), (3, .int x3_3)]) hx hb dX2_decideOutcomes_30 hl (by decide) rfl (fun ls hl => ?_)
        refine lv_aload hx hb dX2_decideOutcomes_32 (lv_at hl 0 rfl) ?_
        refine g7_1 hx hb hts hi7 hown hK hW (k := ((rid 50 1 (ix x3_3)) + 1)) (ks_3s (ks_50 (k := 1) rfl hn22)) (hts _ (wm 5 rfl)) dX2_decideOutcomes_34 ?_
        refine lv_aload_n hx hb dX2_decideOutcomes_37 rfl (lv_at hl 2 rfl) ?_
        refine g2_1 hx hb hts hi2 hown hK hW (k := 232) rfl (hts _ (wm 6 rfl)) dX2_decideOutcomes_38 ?_
        refine lv_iload_n hx hb dX2_decideOutcomes_41 rfl (lv_at hl 5 rfl) ?_
        obtain ⟨hn42, hr⟩ := chk_e hr
        refine xiald hx hb hK hW (k := 234) (t := 20) rfl (by decide) (by decide) rfl (n := 4) hn42 (jx := (ix x3_3)) rfl dX2_decideOutcomes_42 ?_
        refine lv_aload hx hb dX2_decideOutcomes_43 (lv_at hl 1 rfl) ?_
        refine g3_3 hx hb hts hi3 hown hK hW (k := (rid 50 1 (ix x3_3))) (ks_50 (k := 1) rfl hn22) (hts _ (wm 7 rfl)) dX2_decideOutcomes_45 ?_
        refine lv_imul hx hb dX2_decideOutcomes_48 ?_
        refine lv_isub hx hb dX2_decideOutcomes_49 ?_
        obtain ⟨x6_5, ex6_5, hr⟩ := lt1_e hr
        rw [← ex6_5]
        refine lv_istore (lv' := [(6, .int x6_5), (5, .ref (ad ((rid 50 1 (ix x3_3)) + 1))), (4, .ref (ad (rid 50 1 (ix x3_3)))), (0, .ref (ad 232)), (1, .ref (ad 0)), (2, .int x2), (3, .int x3_3)]) hx hb dX2_decideOutcomes_50 hl (by decide) rfl (fun ls hl => ?_)
        refine lv_aload hx hb dX2_decideOutcomes_52 (lv_at hl 1 rfl) ?_
        refine g7_2 hx hb hts hi7 hown hK hW (k := ((rid 50 1 (ix x3_3)) + 1)) (ks_3s (ks_50 (k := 1) rfl hn22)) (hts _ (wm 8 rfl)) dX2_decideOutcomes_54 ?_
        refine lv_aload_n hx hb dX2_decideOutcomes_57 rfl (lv_at hl 3 rfl) ?_
        refine g2_2 hx hb hts hi2 hown hK hW (k := 232) rfl (hts _ (wm 9 rfl)) dX2_decideOutcomes_58 ?_
        refine lv_iload_n hx hb dX2_decideOutcomes_61 rfl (lv_at hl 6 rfl) ?_
        obtain ⟨hn62, hr⟩ := chk_e hr
        refine xiald hx hb hK hW (k := 235) (t := 20) rfl (by decide) (by decide) rfl (n := 4) hn62 (jx := (ix x3_3)) rfl dX2_decideOutcomes_62 ?_
        refine lv_aload hx hb dX2_decideOutcomes_63 (lv_at hl 2 rfl) ?_
        refine g3_3 hx hb hts hi3 hown hK hW (k := (rid 50 1 (ix x3_3))) (ks_50 (k := 1) rfl hn22) (hts _ (wm 7 rfl)) dX2_decideOutcomes_65 ?_
        refine lv_imul hx hb dX2_decideOutcomes_68 ?_
        refine lv_isub hx hb dX2_decideOutcomes_69 ?_
        obtain ⟨x7_6, ex7_6, hr⟩ := lt1_e hr
        rw [← ex7_6]
        refine lv_istore (lv' := [(7, .int x7_6), (6, .int x6_5), (5, .ref (ad ((rid 50 1 (ix x3_3)) + 1))), (4, .ref (ad (rid 50 1 (ix x3_3)))), (0, .ref (ad 232)), (1, .ref (ad 0)), (2, .int x2), (3, .int x3_3)]) hx hb dX2_decideOutcomes_70 hl (by decide) rfl (fun ls hl => ?_)
        refine lv_aload_n hx hb dX2_decideOutcomes_72 rfl (lv_at hl 4 rfl) ?_
        refine g2_1 hx hb hts hi2 hown hK hW (k := 232) rfl (hts _ (wm 6 rfl)) dX2_decideOutcomes_73 ?_
        refine lv_iload_n hx hb dX2_decideOutcomes_76 rfl (lv_at hl 7 rfl) ?_
        obtain ⟨hn77, hr⟩ := chk_e hr
        refine xiald hx hb hK hW (k := 234) (t := 20) rfl (by decide) (by decide) rfl (n := 4) hn77 (jx := (ix x3_3)) rfl dX2_decideOutcomes_77 ?_
        refine va_mabs hx hb (hml.trans hl.1.symm) hown (hts _ (wm 10 rfl)) (hts _ (wm 11 rfl)) (hts _ (wm 12 rfl)) (hts _ (wm 13 rfl)) (Nat.le_of_ble_eq_true rfl) (Nat.le_of_ble_eq_true rfl) (Nat.zero_le _) (Nat.zero_le _) dX2_decideOutcomes_78 (show W p l e _ s m _ below meth c _ _ _ _ _ (F0 m _ _ (Value.int (jabs (gI M_4 234 (ix x3_3))) :: _)) from ?_)
        refine lv_aload_n hx hb dX2_decideOutcomes_81 rfl (lv_at hl 4 rfl) ?_
        refine g2_2 hx hb hts hi2 hown hK hW (k := 232) rfl (hts _ (wm 9 rfl)) dX2_decideOutcomes_82 ?_
        refine lv_iload_n hx hb dX2_decideOutcomes_85 rfl (lv_at hl 7 rfl) ?_
        obtain ⟨hn86, hr⟩ := chk_e hr
        refine xiald hx hb hK hW (k := 235) (t := 20) rfl (by decide) (by decide) rfl (n := 4) hn86 (jx := (ix x3_3)) rfl dX2_decideOutcomes_86 ?_
        refine va_mabs hx hb (hml.trans hl.1.symm) hown (hts _ (wm 10 rfl)) (hts _ (wm 11 rfl)) (hts _ (wm 12 rfl)) (hts _ (wm 13 rfl)) (Nat.le_of_ble_eq_true rfl) (Nat.le_of_ble_eq_true rfl) (Nat.zero_le _) (Nat.zero_le _) dX2_decideOutcomes_87 (show W p l e _ s m _ below meth c _ _ _ _ _ (F0 m _ _ (Value.int (jabs (gI M_4 235 (ix x3_3))) :: _)) from ?_)
        refine va_mmax hx hb (hml.trans hl.1.symm) hown (hts _ (wm 14 rfl)) (hts _ (wm 15 rfl)) (hts _ (wm 12 rfl)) (hts _ (wm 16 rfl)) (Nat.le_of_ble_eq_true rfl) (Nat.le_of_ble_eq_true rfl) (Nat.zero_le _) (Nat.zero_le _) dX2_decideOutcomes_90 (show W p l e _ s m _ below meth c _ _ _ _ _ (F0 m _ _ (Value.int (jmax (jabs (gI M_4 234 (ix x3_3))) (jabs (gI M_4 235 (ix x3_3)))) :: _)) from ?_)
        obtain ⟨x8_7, ex8_7, hr⟩ := lt1_e hr
        rw [← ex8_7]
        refine lv_istore (lv' := [(8, .int x8_7), (7, .int x7_6), (6, .int x6_5), (5, .ref (ad ((rid 50 1 (ix x3_3)) + 1))), (4, .ref (ad (rid 50 1 (ix x3_3)))), (0, .ref (ad 232)), (1, .ref (ad 0)), (2, .int x2), (3, .int x3_3)]) hx hb dX2_decideOutcomes_93 hl (by decide) rfl (fun ls hl => ?_)
        refine lv_aload_n hx hb dX2_decideOutcomes_95 rfl (lv_at hl 5 rfl) ?_
        refine g2_4 hx hb hts hi2 hown hK hW (k := 232) rfl (hts _ (wm 17 rfl)) dX2_decideOutcomes_96 ?_
        refine lv_iload_n hx hb dX2_decideOutcomes_99 rfl (lv_at hl 8 rfl) ?_
        refine lv_ldc (v := (-2000000005 : Int32)) hx hb hown (hts _ (wm 18 rfl)) dX2_decideOutcomes_100 ?_
        obtain ⟨hn102, hr⟩ := chk_e hr
        obtain ⟨M_8, eM_8, hr⟩ := lt1_e hr
        refine xiast hx hb hK hW (k := 237) (t := 20) rfl (by decide) (by decide) rfl (n := 4) hn102 (jx := (ix x3_3)) rfl dX2_decideOutcomes_102 (fun H locs hW => ?_)
        rw [← eM_8] at hW
        refine lv_aload hx hb dX2_decideOutcomes_103 (lv_at hl 3 rfl) ?_
        refine g7_0 hx hb hts hi7 hown hK hW (k := ((rid 50 1 (ix x3_3)) + 1)) (ks_3s (ks_50 (k := 1) rfl hn22)) (hts _ (wm 19 rfl)) dX2_decideOutcomes_105 ?_
        obtain ⟨M_9, hr, hr3⟩ := ob1_e hr
        have hj245_9 : ∀ (H : Heap) (locs : List Loc) (ls : Array Slot), Xw D true cA ad M_9 (AX true ad) s.heap H locs → lv_has ls 9 [(0, .ref (ad 232)), (1, .ref (ad 0)), (2, .int x2), (3, .int x3_3)] → W p l e (headSpec wsX2_decideOutcomes { frames := 2, cells := 0, slots := 0, locals := 51 }).room s m args below meth c H locs 0 0 (MQ below (QvX false D true cA ad M') args s 0 0 (AX true ad)) (F0 m 245 ls []) := by
          intro H locs ls hW hl
          have hr := hr3
          obtain ⟨x3_24, ex3_24, hr⟩ := lt1_e hr
          refine lv_iinc (v := x3_24) (lv' := [(3, .int x3_24), (0, .ref (ad 232)), (1, .ref (ad 0)), (2, .int x2)]) hx hb dX2_decideOutcomes_245 hl (k := 3) rfl (by rw [ex3_24]; rfl) (by decide) rfl (fun ls hl => ?_)
          refine lv_goto (tgt := 12) hx hb dX2_decideOutcomes_248 (by decide) ?_
          exact ih x3_24 M_9 _ _ _ hW (lv_sub hl [1, 2, 3, 0] rfl) hr
        clear hr3
        refine lv_if_ne (tgt := 121) hx hb dX2_decideOutcomes_108 (by decide) (fun c1 => ?_) (fun c1 => ?_)
        · have hr := br_n c1 hr
          refine lv_aload hx hb dX2_decideOutcomes_121 (lv_at hl 3 rfl) ?_
          refine g7_3 hx hb hts hi7 hown hK hW (k := ((rid 50 1 (ix x3_3)) + 1)) (ks_3s (ks_50 (k := 1) rfl hn22)) (hts _ (wm 21 rfl)) dX2_decideOutcomes_123 ?_
          refine lv_aload_n hx hb dX2_decideOutcomes_126 rfl (lv_at hl 6 rfl) ?_
          refine g8_3 hx hb hts hi8 hown hK hW (k := 0) rfl (hts _ (wm 22 rfl)) dX2_decideOutcomes_127 ?_
          refine lv_iconst (v := (0 : Int32)) hx hb dX2_decideOutcomes_130 (by decide) ?_
          refine xiald hx hb hK hW (k := 13) (t := 21) rfl (by decide) (by decide) rfl (n := 5) (by decide) (jx := 0) (by decide) dX2_decideOutcomes_131 ?_
          refine lv_icmp_ge (tgt := 145) hx hb dX2_decideOutcomes_132 (by decide) (fun c1 => ?_) (fun c1 => ?_)
          · have hr := br_p c1 hr
            refine lv_iload hx hb dX2_decideOutcomes_145 (lv_at hl 0 rfl) ?_
            refine lv_iload_n hx hb dX2_decideOutcomes_147 rfl (lv_at hl 7 rfl) ?_
            refine lv_icmp_gt (tgt := 171) hx hb dX2_decideOutcomes_148 (by decide) (fun c1 => ?_) (fun c1 => ?_)
            · have hr := br_p c1 hr
              refine lv_aload_n hx hb dX2_decideOutcomes_171 rfl (lv_at hl 5 rfl) ?_
              refine g2_3 hx hb hts hi2 hown hK hW (k := 232) rfl (hts _ (wm 20 rfl)) dX2_decideOutcomes_172 ?_
              refine lv_iload_n hx hb dX2_decideOutcomes_175 rfl (lv_at hl 8 rfl) ?_
              refine lv_iconst (v := (2 : Int32)) hx hb dX2_decideOutcomes_176 (by decide) ?_
              obtain ⟨hn177, hr⟩ := chk_e hr
              obtain ⟨M_10, eM_10, hr⟩ := lt1_e hr
              refine xiast hx hb hK hW (k := 236) (t := 20) rfl (by decide) (by decide) rfl (n := 4) hn177 (jx := (ix x3_3)) rfl dX2_decideOutcomes_177 (fun H locs hW => ?_)
              rw [← eM_10] at hW
              refine lv_goto (tgt := 245) hx hb dX2_decideOutcomes_178 (by decide) ?_
              have e1 := Option.some.inj hr
              subst e1
              exact hj245_9 _ _ _ hW (lv_sub hl [5, 6, 7, 8] rfl)
            · have hr := br_n c1 hr
              refine lv_aload hx hb dX2_decideOutcomes_151 (lv_at hl 4 rfl) ?_
              refine lv_iload hx hb dX2_decideOutcomes_153 (lv_at hl 2 rfl) ?_
              obtain ⟨r_11, hc155, hr⟩ := ob1_e hr
              refine xk_i (va_runV (As := [.int x6_5]) (rest := []) ⟨hx, hb, hml, hown, hts⟩ (c_X3_isLateEnough l D cA ad M_8 (rid 50 1 (ix x3_3)) x6_5 (ks_50 (k := 1) rfl hn22) hc155) (cwV 1 hts gX2_decideOutcomes_X3_isLateEnough rfl rfl rfl (by decide +kernel) ⟨Nat.le_of_ble_eq_true rfl, Nat.le_of_ble_eq_true rfl⟩) (xpreV hK hW (k := (rid 50 1 (ix x3_3))) (ks_50 (k := 1) rfl hn22) (by decide) rfl) rfl rfl hl.1 rfl (lv_room (Nat.le_of_ble_eq_true rfl)) dX2_decideOutcomes_155 ⟨Nat.le_of_ble_eq_true rfl, Nat.le_of_ble_eq_true rfl⟩) hW (fun H locs hW => ?_)
              refine lv_if_eq (tgt := 171) hx hb dX2_decideOutcomes_158 (by decide) (fun c1 => ?_) (fun c1 => ?_)
              · have hr := br_p c1 hr
                refine lv_aload_n hx hb dX2_decideOutcomes_171 rfl (lv_at hl 5 rfl) ?_
                refine g2_3 hx hb hts hi2 hown hK hW (k := 232) rfl (hts _ (wm 20 rfl)) dX2_decideOutcomes_172 ?_
                refine lv_iload_n hx hb dX2_decideOutcomes_175 rfl (lv_at hl 8 rfl) ?_
                refine lv_iconst (v := (2 : Int32)) hx hb dX2_decideOutcomes_176 (by decide) ?_
                obtain ⟨hn177, hr⟩ := chk_e hr
                obtain ⟨M_12, eM_12, hr⟩ := lt1_e hr
                refine xiast hx hb hK hW (k := 236) (t := 20) rfl (by decide) (by decide) rfl (n := 4) hn177 (jx := (ix x3_3)) rfl dX2_decideOutcomes_177 (fun H locs hW => ?_)
                rw [← eM_12] at hW
                refine lv_goto (tgt := 245) hx hb dX2_decideOutcomes_178 (by decide) ?_
                have e1 := Option.some.inj hr
                subst e1
                exact hj245_9 _ _ _ hW (lv_sub hl [5, 6, 7, 8] rfl)
              · have hr := br_n c1 hr
                refine lv_aload hx hb dX2_decideOutcomes_161 (lv_at hl 4 rfl) ?_
                refine lv_iload hx hb dX2_decideOutcomes_163 (lv_at hl 1 rfl) ?_
                obtain ⟨r_13, hc165, hr⟩ := ob1_e hr
                refine xk_i (va_runV (As := [.int x7_6]) (rest := []) ⟨hx, hb, hml, hown, hts⟩ (c_X3_isLateEnough l D cA ad M_8 (rid 50 1 (ix x3_3)) x7_6 (ks_50 (k := 1) rfl hn22) hc165) (cwV 1 hts gX2_decideOutcomes_X3_isLateEnough rfl rfl rfl (by decide +kernel) ⟨Nat.le_of_ble_eq_true rfl, Nat.le_of_ble_eq_true rfl⟩) (xpreV hK hW (k := (rid 50 1 (ix x3_3))) (ks_50 (k := 1) rfl hn22) (by decide) rfl) rfl rfl hl.1 rfl (lv_room (Nat.le_of_ble_eq_true rfl)) dX2_decideOutcomes_165 ⟨Nat.le_of_ble_eq_true rfl, Nat.le_of_ble_eq_true rfl⟩) hW (fun H locs hW => ?_)
                refine lv_if_ne (tgt := 181) hx hb dX2_decideOutcomes_168 (by decide) (fun c1 => ?_) (fun c1 => ?_)
                · have hr := br_n c1 hr
                  refine lv_aload_n hx hb dX2_decideOutcomes_181 rfl (lv_at hl 5 rfl) ?_
                  refine g2_3 hx hb hts hi2 hown hK hW (k := 232) rfl (hts _ (wm 20 rfl)) dX2_decideOutcomes_182 ?_
                  refine lv_iload_n hx hb dX2_decideOutcomes_185 rfl (lv_at hl 8 rfl) ?_
                  refine lv_iload hx hb dX2_decideOutcomes_186 (lv_at hl 0 rfl) ?_
                  obtain ⟨y_14, hr, hr3⟩ := ob1_e hr
                  have hj196_14 : ∀ (H : Heap) (locs : List Loc) (ls : Array Slot), Xw D true cA ad M_8 (AX true ad) s.heap H locs → lv_has ls 9 [(8, .int x8_7), (7, .int x7_6), (6, .int x6_5), (4, .ref (ad (rid 50 1 (ix x3_3)))), (0, .ref (ad 232)), (1, .ref (ad 0)), (2, .int x2), (3, .int x3_3)] → W p l e (headSpec wsX2_decideOutcomes { frames := 2, cells := 0, slots := 0, locals := 51 }).room s m args below meth c H locs 0 0 (MQ below (QvX false D true cA ad M') args s 0 0 (AX true ad)) (F0 m 196 ls [.int y_14, .int x3_3, .ref (ad 236)]) := by
                    intro H locs ls hW hl
                    have hr := hr3
                    obtain ⟨hn196, hr⟩ := chk_e hr
                    obtain ⟨M_15, eM_15, hr⟩ := lt1_e hr
                    refine xiast hx hb hK hW (k := 236) (t := 20) rfl (by decide) (by decide) rfl (n := 4) hn196 (jx := (ix x3_3)) rfl dX2_decideOutcomes_196 (fun H locs hW => ?_)
                    rw [← eM_15] at hW
                    refine lv_aload_n hx hb dX2_decideOutcomes_197 rfl (lv_at hl 4 rfl) ?_
                    refine g2_4 hx hb hts hi2 hown hK hW (k := 232) rfl (hts _ (wm 17 rfl)) dX2_decideOutcomes_198 ?_
                    refine lv_iload_n hx hb dX2_decideOutcomes_201 rfl (lv_at hl 7 rfl) ?_
                    refine lv_aload hx hb dX2_decideOutcomes_202 (lv_at hl 3 rfl) ?_
                    refine lv_iload hx hb dX2_decideOutcomes_204 (lv_at hl 2 rfl) ?_
                    refine lv_iload hx hb dX2_decideOutcomes_206 (lv_at hl 1 rfl) ?_
                    obtain ⟨r_16, hc208, hr⟩ := ob1_e hr
                    refine xk_i (va_runV (As := [.int x6_5, .int x7_6]) (rest := [.int x3_3, .ref (ad 237)]) ⟨hx, hb, hml, hown, hts⟩ (c_X3_velocityFrom l D cA ad M_15 (rid 50 1 (ix x3_3)) x6_5 x7_6 (ks_50 (k := 1) rfl hn22) hc208) (cwV 2 hts gX2_decideOutcomes_X3_velocityFrom rfl rfl rfl (by decide +kernel) ⟨Nat.le_of_ble_eq_true rfl, Nat.le_of_ble_eq_true rfl⟩) (xpreV hK hW (k := (rid 50 1 (ix x3_3))) (ks_50 (k := 1) rfl hn22) (by decide) rfl) rfl rfl hl.1 rfl (lv_room (Nat.le_of_ble_eq_true rfl)) dX2_decideOutcomes_208 ⟨Nat.le_of_ble_eq_true rfl, Nat.le_of_ble_eq_true rfl⟩) hW (fun H locs hW => ?_)
                    obtain ⟨hn211, hr⟩ := chk_e hr
                    obtain ⟨M_17, eM_17, hr⟩ := lt1_e hr
                    refine xiast hx hb hK hW (k := 237) (t := 20) rfl (by decide) (by decide) rfl (n := 4) hn211 (jx := (ix x3_3)) rfl dX2_decideOutcomes_211 (fun H locs hW => ?_)
                    rw [← eM_17] at hW
                    refine lv_aload_n hx hb dX2_decideOutcomes_212 rfl (lv_at hl 4 rfl) ?_
                    refine lv_dup hx hb dX2_decideOutcomes_213 rfl ?_
                    refine g2_6 hx hb hts hi2 hown hK hW (k := 232) rfl (hts _ (wm 1 rfl)) dX2_decideOutcomes_214 ?_
                    refine lv_iconst (v := (1 : Int32)) hx hb dX2_decideOutcomes_217 (by decide) ?_
                    refine lv_iload_n hx hb dX2_decideOutcomes_218 rfl (lv_at hl 7 rfl) ?_
                    refine lv_ishl hx hb dX2_decideOutcomes_219 ?_
                    refine lv_ior hx hb dX2_decideOutcomes_220 ?_
                    obtain ⟨M_18, eM_18, hr⟩ := lt1_e hr
                    refine p2_6 hx hb hts hi2 hown hK hW (k := 232) rfl (hts _ (wm 1 rfl)) dX2_decideOutcomes_221 (fun H locs hW => ?_)
                    rw [← eM_18] at hW
                    refine lv_aload_n hx hb dX2_decideOutcomes_224 rfl (lv_at hl 4 rfl) ?_
                    refine lv_dup hx hb dX2_decideOutcomes_225 rfl ?_
                    refine g2_7 hx hb hts hi2 hown hK hW (k := 232) rfl (hts _ (wm 2 rfl)) dX2_decideOutcomes_226 ?_
                    refine lv_iload hx hb dX2_decideOutcomes_229 (lv_at hl 0 rfl) ?_
                    obtain ⟨y_19, hr, hr3⟩ := ob1_e hr
                    have hj241_19 : ∀ (H : Heap) (locs : List Loc) (ls : Array Slot), Xw D true cA ad M_18 (AX true ad) s.heap H locs → lv_has ls 9 [(0, .ref (ad 232)), (1, .ref (ad 0)), (2, .int x2), (3, .int x3_3)] → W p l e (headSpec wsX2_decideOutcomes { frames := 2, cells := 0, slots := 0, locals := 51 }).room s m args below meth c H locs 0 0 (MQ below (QvX false D true cA ad M') args s 0 0 (AX true ad)) (F0 m 241 ls [.int y_19, .int (gI M_18 232 7), .ref (ad 232)]) := by
                      intro H locs ls hW hl
                      have hr := hr3
                      refine lv_ior hx hb dX2_decideOutcomes_241 ?_
                      obtain ⟨M_20, eM_20, hr⟩ := lt1_e hr
                      refine p2_7 hx hb hts hi2 hown hK hW (k := 232) rfl (hts _ (wm 2 rfl)) dX2_decideOutcomes_242 (fun H locs hW => ?_)
                      rw [← eM_20] at hW
                      have e1 := Option.some.inj hr
                      subst e1
                      exact hj245_9 _ _ _ hW (lv_sub hl [0, 1, 2, 3] rfl)
                    clear hr3
                    refine lv_if_ne (tgt := 238) hx hb dX2_decideOutcomes_231 (by decide) (fun c1 => ?_) (fun c1 => ?_)
                    · have hr := br_n c1 hr
                      refine lv_iconst (v := (1 : Int32)) hx hb dX2_decideOutcomes_238 (by decide) ?_
                      refine lv_iload_n hx hb dX2_decideOutcomes_239 rfl (lv_at hl 7 rfl) ?_
                      refine lv_ishl hx hb dX2_decideOutcomes_240 ?_
                      have e1 := Option.some.inj hr
                      subst e1
                      exact hj241_19 _ _ _ hW (lv_sub hl [4, 5, 6, 7] rfl)
                    · have hr := br_p c1 hr
                      refine lv_iconst (v := (0 : Int32)) hx hb dX2_decideOutcomes_234 (by decide) ?_
                      refine lv_goto (tgt := 241) hx hb dX2_decideOutcomes_235 (by decide) ?_
                      have e1 := Option.some.inj hr
                      subst e1
                      exact hj241_19 _ _ _ hW (lv_sub hl [4, 5, 6, 7] rfl)
                  clear hr3
                  refine lv_if_ne (tgt := 195) hx hb dX2_decideOutcomes_188 (by decide) (fun c1 => ?_) (fun c1 => ?_)
                  · have hr := br_n c1 hr
                    refine lv_iconst (v := (3 : Int32)) hx hb dX2_decideOutcomes_195 (by decide) ?_
                    have e1 := Option.some.inj hr
                    subst e1
                    exact hj196_14 _ _ _ hW (lv_sub hl [0, 1, 2, 4, 5, 6, 7, 8] rfl)
                  · have hr := br_p c1 hr
                    refine lv_iconst (v := (4 : Int32)) hx hb dX2_decideOutcomes_191 (by decide) ?_
                    refine lv_goto (tgt := 196) hx hb dX2_decideOutcomes_192 (by decide) ?_
                    have e1 := Option.some.inj hr
                    subst e1
                    exact hj196_14 _ _ _ hW (lv_sub hl [0, 1, 2, 4, 5, 6, 7, 8] rfl)
                · have hr := br_p c1 hr
                  refine lv_aload_n hx hb dX2_decideOutcomes_171 rfl (lv_at hl 5 rfl) ?_
                  refine g2_3 hx hb hts hi2 hown hK hW (k := 232) rfl (hts _ (wm 20 rfl)) dX2_decideOutcomes_172 ?_
                  refine lv_iload_n hx hb dX2_decideOutcomes_175 rfl (lv_at hl 8 rfl) ?_
                  refine lv_iconst (v := (2 : Int32)) hx hb dX2_decideOutcomes_176 (by decide) ?_
                  obtain ⟨hn177, hr⟩ := chk_e hr
                  obtain ⟨M_21, eM_21, hr⟩ := lt1_e hr
                  refine xiast hx hb hK hW (k := 236) (t := 20) rfl (by decide) (by decide) rfl (n := 4) hn177 (jx := (ix x3_3)) rfl dX2_decideOutcomes_177 (fun H locs hW => ?_)
                  rw [← eM_21] at hW
                  refine lv_goto (tgt := 245) hx hb dX2_decideOutcomes_178 (by decide) ?_
                  have e1 := Option.some.inj hr
                  subst e1
                  exact hj245_9 _ _ _ hW (lv_sub hl [5, 6, 7, 8] rfl)
          · have hr := br_n c1 hr
            refine lv_aload_n hx hb dX2_decideOutcomes_135 rfl (lv_at hl 5 rfl) ?_
            refine g2_3 hx hb hts hi2 hown hK hW (k := 232) rfl (hts _ (wm 20 rfl)) dX2_decideOutcomes_136 ?_
            refine lv_iload_n hx hb dX2_decideOutcomes_139 rfl (lv_at hl 8 rfl) ?_
            refine lv_iconst (v := (1 : Int32)) hx hb dX2_decideOutcomes_140 (by decide) ?_
            obtain ⟨hn141, hr⟩ := chk_e hr
            obtain ⟨M_22, eM_22, hr⟩ := lt1_e hr
            refine xiast hx hb hK hW (k := 236) (t := 20) rfl (by decide) (by decide) rfl (n := 4) hn141 (jx := (ix x3_3)) rfl dX2_decideOutcomes_141 (fun H locs hW => ?_)
            rw [← eM_22] at hW
            refine lv_goto (tgt := 245) hx hb dX2_decideOutcomes_142 (by decide) ?_
            have e1 := Option.some.inj hr
            subst e1
            exact hj245_9 _ _ _ hW (lv_sub hl [5, 6, 7, 8] rfl)
        · have hr := br_p c1 hr
          refine lv_aload_n hx hb dX2_decideOutcomes_111 rfl (lv_at hl 5 rfl) ?_
          refine g2_3 hx hb hts hi2 hown hK hW (k := 232) rfl (hts _ (wm 20 rfl)) dX2_decideOutcomes_112 ?_
          refine lv_iload_n hx hb dX2_decideOutcomes_115 rfl (lv_at hl 8 rfl) ?_
          refine lv_iconst (v := (0 : Int32)) hx hb dX2_decideOutcomes_116 (by decide) ?_
          obtain ⟨hn117, hr⟩ := chk_e hr
          obtain ⟨M_23, eM_23, hr⟩ := lt1_e hr
          refine xiast hx hb hK hW (k := 236) (t := 20) rfl (by decide) (by decide) rfl (n := 4) hn117 (jx := (ix x3_3)) rfl dX2_decideOutcomes_117 (fun H locs hW => ?_)
          rw [← eM_23] at hW
          refine lv_goto (tgt := 245) hx hb dX2_decideOutcomes_118 (by decide) ?_
          have e1 := Option.some.inj hr
          subst e1
          exact hj245_9 _ _ _ hW (lv_sub hl [5, 6, 7, 8] rfl)
  exact hL12_1 1000 (0 : Int32) M_2 _ _ _ hW (lv_sub hl [1, 2, 3, 0] rfl) hr

set_option maxHeartbeats 4000000 in
set_option maxRecDepth 100000 in
theorem c_X10_contains (l : Launch) (D : va_G) (cA : Nat → ClassId) (ad : Nat → Nat) (M : Mm) (x0 : Int32) (x1 : Int32) {r : Int32} (hr : f_X10_contains x0 x1 M = some r) : Met l yX10_contains wsX10_contains ({ frames := 0, cells := 0, slots := 0, locals := 0 }) (PcX D true cA ad M [.int x0, .int x1]) (QiX false D true cA ad r M) 0 0 (AX true ad) := by
  refine Met.ofW (cc := cX10_contains) (maxL := 2) (ret := (some .boolean)) (by decide) rfl ?_
  intro p e s m args below meth c s₁ B hml hv
  obtain ⟨hav, hP0, hK⟩ := hv
  have hx := B.exec
  have hb := B.bytes
  have hr0 := B.returns
  have hts := atoms_spec (ws := wsX10_contains) B.pre
  have hown : s.vm.findClass RX10 = some m.cls := findClass_of_methodNamed B.named
  have hlocks := B.notSynchronized
  have hW := xstart hP0
  have hl := lv_entry ([.int x0, .int x1]) (n := 2) (Nat.le_of_ble_eq_true rfl)
  have hef := lg_entry_eq m ([.int x0, .int x1]) 2
  rw [← hav] at hef
  rw [hef]
  clear hef
  generalize (lg_sl ([.int x0, .int x1]) ++ List.replicate (2 - (lg_sl ([.int x0, .int x1])).length) Slot.unset).toArray = ls at hl ⊢
  have hl : lv_has ls 2 [(0, .int x0), (1, .int x1)] := hl
  clear hP0
  unfold f_X10_contains at hr
  refine lv_iload_n hx hb dX10_contains_0 rfl (lv_at hl 0 rfl) ?_
  refine lv_iload_n hx hb dX10_contains_1 rfl (lv_at hl 1 rfl) ?_
  refine lv_ishr hx hb dX10_contains_2 ?_
  refine lv_iconst (v := (1 : Int32)) hx hb dX10_contains_3 (by decide) ?_
  refine lv_iand hx hb dX10_contains_4 ?_
  refine lv_if_eq (tgt := 12) hx hb dX10_contains_5 (by decide) (fun c1 => ?_) (fun c1 => ?_)
  · have hr := br_p c1 hr
    refine lv_iconst (v := (0 : Int32)) hx hb dX10_contains_12 (by decide) ?_
    rw [← Option.some.inj hr]
    exact xzret hx hb hr0 hlocks hW adR_rf (by decide) dX10_contains_13
  · have hr := br_n c1 hr
    refine lv_iconst (v := (1 : Int32)) hx hb dX10_contains_8 (by decide) ?_
    refine lv_goto (tgt := 13) hx hb dX10_contains_9 (by decide) ?_
    rw [← Option.some.inj hr]
    exact xzret hx hb hr0 hlocks hW adR_rf (by decide) dX10_contains_13

set_option maxHeartbeats 4000000 in
set_option maxRecDepth 100000 in
theorem c_X2_weightedMean (l : Launch) (D : va_G) (cA : Nat → ClassId) (ad : Nat → Nat) (M : Mm) (x2 : Int32) {r : Int32} (hr : f_X2_weightedMean x2 M = some r) : Met l yX2_weightedMean wsX2_weightedMean ({ frames := 1, cells := 0, slots := 0, locals := 23 }) (PcX D true cA ad M [.ref (ad 232), .ref (ad 0), .int x2]) (QiX false D true cA ad r M) 0 0 (AX true ad) := by
  refine Met.ofW (cc := cX2_weightedMean) (maxL := 8) (ret := (some .int)) (by decide) rfl ?_
  intro p e s m args below meth c s₁ B hml hv
  obtain ⟨hav, hP0, hK⟩ := hv
  have hx := B.exec
  have hb := B.bytes
  have hr0 := B.returns
  have hts := atoms_spec (ws := wsX2_weightedMean) B.pre
  have hown : s.vm.findClass RX2 = some m.cls := findClass_of_methodNamed B.named
  have hlocks := B.notSynchronized
  have hW := xstart hP0
  have hi2 : ∀ w ∈ wsX20, w ∈ wsX2_weightedMean := fun w h => List.mem_cons_of_mem _ (List.mem_append_right _ h)
  have hi3 : ∀ w ∈ wsX30, w ∈ wsX2_weightedMean := fun w h => List.mem_cons_of_mem _ (List.mem_append_left _ (List.mem_append_right _ h))
  have hi8 : ∀ w ∈ wsX80, w ∈ wsX2_weightedMean := fun w h => List.mem_cons_of_mem _ (List.mem_append_left _ (List.mem_append_left _ (List.mem_append_right _ h)))
  have hl := lv_entry ([.ref (ad 232), .ref (ad 0), .int x2]) (n := 8) (Nat.le_of_ble_eq_true rfl)
  have hef := lg_entry_eq m ([.ref (ad 232), .ref (ad 0), .int x2]) 8
  rw [← hav] at hef
  rw [hef]
  clear hef
  generalize (lg_sl ([.ref (ad 232), .ref (ad 0), .int x2]) ++ List.replicate (8 - (lg_sl ([.ref (ad 232), .ref (ad 0), .int x2])).length) Slot.unset).toArray = ls at hl ⊢
  have hl : lv_has ls 8 [(0, .ref (ad 232)), (1, .ref (ad 0)), (2, .int x2)] := hl
  clear hP0
  unfold f_X2_weightedMean at hr
  refine lv_lconst (v := (0 : Int64)) hx hb dX2_weightedMean_0 (by decide) ?_
  refine lv_lstore_n (lv' := [(3, .long (0 : Int64)), (0, .ref (ad 232)), (1, .ref (ad 0)), (2, .int x2)]) hx hb dX2_weightedMean_1 rfl hl (by decide) rfl (fun ls hl => ?_)
  refine lv_lconst (v := (0 : Int64)) hx hb dX2_weightedMean_2 (by decide) ?_
  refine lv_lstore (lv' := [(5, .long (0 : Int64)), (3, .long (0 : Int64)), (0, .ref (ad 232)), (1, .ref (ad 0)), (2, .int x2)]) hx hb dX2_weightedMean_3 hl (by decide) rfl (fun ls hl => ?_)
  refine lv_iconst (v := (0 : Int32)) hx hb dX2_weightedMean_5 (by decide) ?_
  refine lv_istore (lv' := [(7, .int (0 : Int32)), (5, .long (0 : Int64)), (3, .long (0 : Int64)), (0, .ref (ad 232)), (1, .ref (ad 0)), (2, .int x2)]) hx hb dX2_weightedMean_6 hl (by decide) rfl (fun ls hl => ?_)
  have hL8_1 : ∀ (n : Nat) (x3_1 : Int64) (x5_2 : Int64) (x7_3 : Int32) (H : Heap) (locs : List Loc) (ls : Array Slot) (x3_4 : Int64) (x5_5 : Int64), Xw D true cA ad M (AX true ad) s.heap H locs → lv_has ls 8 [(0, .ref (ad 232)), (1, .ref (ad 0)), (2, .int x2), (3, .long x3_1), (5, .long x5_2), (7, .int x7_3)] → f_X2_weightedMean_L8 M x2 n x3_1 x5_2 x7_3 = some (x3_4, x5_5) → (∀ (H : Heap) (locs : List Loc) (ls : Array Slot), Xw D true cA ad M (AX true ad) s.heap H locs → lv_has ls 8 [(3, .long x3_4), (5, .long x5_5)] → W p l e (headSpec wsX2_weightedMean { frames := 1, cells := 0, slots := 0, locals := 23 }).room s m args below meth c H locs 0 0 (MQ below (QiX false D true cA ad r M) args s 0 0 (AX true ad)) (F0 m 68 ls [])) → W p l e (headSpec wsX2_weightedMean { frames := 1, cells := 0, slots := 0, locals := 23 }).room s m args below meth c H locs 0 0 (MQ below (QiX false D true cA ad r M) args s 0 0 (AX true ad)) (F0 m 8 ls []) := by
    intro n
    induction n with
    | zero =>
      intro x3_1 x5_2 x7_3 H locs ls x3_4 x5_5 hW hl hr hk
      exact absurd hr (by simp [f_X2_weightedMean_L8])
    | succ n ih =>
      intro x3_1 x5_2 x7_3 H locs ls x3_4 x5_5 hW hl hr hk
      rw [f_X2_weightedMean_L8] at hr
      refine lv_iload hx hb dX2_weightedMean_8 (lv_at hl 5 rfl) ?_
      refine lv_iconst (v := (4 : Int32)) hx hb dX2_weightedMean_10 (by decide) ?_
      refine lv_icmp_ge (tgt := 68) hx hb dX2_weightedMean_11 (by decide) (fun c1 => ?_) (fun c1 => ?_)
      · have hr := br_p c1 hr
        obtain ⟨e1, e2⟩ := Prod.mk.inj (Option.some.inj hr)
        subst e1
        subst e2
        exact hk _ _ _ hW (lv_sub hl [3, 4] rfl)
      · have hr := br_n c1 hr
        refine lv_iload_n hx hb dX2_weightedMean_14 rfl (lv_at hl 2 rfl) ?_
        refine lv_iload hx hb dX2_weightedMean_15 (lv_at hl 5 rfl) ?_
        obtain ⟨r_6, hc17, hr⟩ := ob1_e hr
        refine xk_i (va_runSN (As := [.int x2, .int x7_3]) (rest := []) ⟨hx, hb, hml, hown, hts⟩ (c_X10_contains l D cA ad M x2 x7_3 hc17) ⟨va_cnB 2 hts gX2_weightedMean_X10_contains_n154 rfl rfl rfl hK.2.2.2.2.2.2.2.2.2.2.2.2.2.1 (hts _ (wm 5 rfl)) (by decide +kernel) ⟨Nat.le_of_ble_eq_true rfl, Nat.le_of_ble_eq_true rfl⟩, (hts _ (wm 4 rfl)), trivial⟩ (xpreS hK hW) rfl rfl hl.1 rfl (lv_room (Nat.le_of_ble_eq_true rfl)) dX2_weightedMean_17 ⟨Nat.le_of_ble_eq_true rfl, Nat.le_of_ble_eq_true rfl⟩) hW (fun H locs hW => ?_)
        obtain ⟨x3_7, x5_8, hr, hr3⟩ := ob2_e hr
        have hj62_8 : ∀ (H : Heap) (locs : List Loc) (ls : Array Slot), Xw D true cA ad M (AX true ad) s.heap H locs → lv_has ls 8 [(0, .ref (ad 232)), (1, .ref (ad 0)), (2, .int x2), (7, .int x7_3), (3, .long x3_7), (5, .long x5_8)] → W p l e (headSpec wsX2_weightedMean { frames := 1, cells := 0, slots := 0, locals := 23 }).room s m args below meth c H locs 0 0 (MQ below (QiX false D true cA ad r M) args s 0 0 (AX true ad)) (F0 m 62 ls []) := by
          intro H locs ls hW hl
          have hr := hr3
          obtain ⟨x7_11, ex7_11, hr⟩ := lt1_e hr
          refine lv_iinc (v := x7_11) (lv' := [(7, .int x7_11), (0, .ref (ad 232)), (1, .ref (ad 0)), (2, .int x2), (3, .long x3_7), (5, .long x5_8)]) hx hb dX2_weightedMean_62 hl (k := 3) rfl (by rw [ex7_11]; rfl) (by decide) rfl (fun ls hl => ?_)
          refine lv_goto (tgt := 8) hx hb dX2_weightedMean_65 (by decide) ?_
          exact ih x3_7 x5_8 x7_11 _ _ _ _ _ hW (lv_sub hl [1, 2, 3, 4, 5, 0] rfl) hr hk
        clear hr3
        refine lv_if_eq (tgt := 62) hx hb dX2_weightedMean_20 (by decide) (fun c1 => ?_) (fun c1 => ?_)
        · have hr := br_p c1 hr
          obtain ⟨e1, e2⟩ := Prod.mk.inj (Option.some.inj hr)
          subst e1
          subst e2
          exact hj62_8 _ _ _ hW (lv_sub hl [0, 1, 2, 5, 3, 4] rfl)
        · have hr := br_n c1 hr
          refine lv_lload_n hx hb dX2_weightedMean_23 rfl (lv_at hl 3 rfl) ?_
          refine lv_aload_n hx hb dX2_weightedMean_24 rfl (lv_at hl 1 rfl) ?_
          refine g8_0 hx hb hts hi8 hown hK hW (k := 0) rfl (hts _ (wm 1 rfl)) dX2_weightedMean_25 ?_
          refine lv_iload hx hb dX2_weightedMean_28 (lv_at hl 5 rfl) ?_
          obtain ⟨hn30, hr⟩ := chk_e hr
          refine xaald hx hb hK hW (k := 1) (t := 50) rfl (by decide) (by decide) rfl (t0 := 3) rfl hn30 dX2_weightedMean_30 ?_
          refine g3_2 hx hb hts hi3 hown hK hW (k := (rid 50 1 (ix x7_3))) (ks_50 (k := 1) rfl hn30) (hts _ (wm 2 rfl)) dX2_weightedMean_31 ?_
          refine lv_i2l hx hb dX2_weightedMean_34 rfl ?_
          refine lv_aload_n hx hb dX2_weightedMean_35 rfl (lv_at hl 0 rfl) ?_
          refine g2_4 hx hb hts hi2 hown hK hW (k := 232) rfl (hts _ (wm 3 rfl)) dX2_weightedMean_36 ?_
          refine lv_iload hx hb dX2_weightedMean_39 (lv_at hl 5 rfl) ?_
          obtain ⟨hn41, hr⟩ := chk_e hr
          refine xiald hx hb hK hW (k := 237) (t := 20) rfl (by decide) (by decide) rfl (n := 4) hn41 (jx := (ix x7_3)) rfl dX2_weightedMean_41 ?_
          refine lv_i2l hx hb dX2_weightedMean_42 rfl ?_
          refine lv_lmul hx hb dX2_weightedMean_43 ?_
          refine lv_ladd hx hb dX2_weightedMean_44 ?_
          obtain ⟨x3_9, ex3_9, hr⟩ := lt1_e hr
          rw [← ex3_9]
          refine lv_lstore_n (lv' := [(3, .long x3_9), (0, .ref (ad 232)), (1, .ref (ad 0)), (2, .int x2), (5, .long x5_2), (7, .int x7_3)]) hx hb dX2_weightedMean_45 rfl hl (by decide) rfl (fun ls hl => ?_)
          refine lv_lload hx hb dX2_weightedMean_46 (lv_at hl 4 rfl) ?_
          refine lv_aload_n hx hb dX2_weightedMean_48 rfl (lv_at hl 2 rfl) ?_
          refine g8_0 hx hb hts hi8 hown hK hW (k := 0) rfl (hts _ (wm 1 rfl)) dX2_weightedMean_49 ?_
          refine lv_iload hx hb dX2_weightedMean_52 (lv_at hl 5 rfl) ?_
          obtain ⟨hn54, hr⟩ := chk_e hr
          refine xaald hx hb hK hW (k := 1) (t := 50) rfl (by decide) (by decide) rfl (t0 := 3) rfl hn54 dX2_weightedMean_54 ?_
          refine g3_2 hx hb hts hi3 hown hK hW (k := (rid 50 1 (ix x7_3))) (ks_50 (k := 1) rfl hn54) (hts _ (wm 2 rfl)) dX2_weightedMean_55 ?_
          refine lv_i2l hx hb dX2_weightedMean_58 rfl ?_
          refine lv_ladd hx hb dX2_weightedMean_59 ?_
          obtain ⟨x5_10, ex5_10, hr⟩ := lt1_e hr
          rw [← ex5_10]
          refine lv_lstore (lv' := [(5, .long x5_10), (3, .long x3_9), (0, .ref (ad 232)), (1, .ref (ad 0)), (2, .int x2), (7, .int x7_3)]) hx hb dX2_weightedMean_60 hl (by decide) rfl (fun ls hl => ?_)
          obtain ⟨e1, e2⟩ := Prod.mk.inj (Option.some.inj hr)
          subst e1
          subst e2
          exact hj62_8 _ _ _ hW (lv_sub hl [2, 3, 4, 5, 1, 0] rfl)
  obtain ⟨x3_4, x5_5, hr, hr3⟩ := ob2_e hr
  refine hL8_1 1000 (0 : Int64) (0 : Int64) (0 : Int32) _ _ _ x3_4 x5_5 hW (lv_sub hl [3, 4, 5, 2, 1, 0] rfl) hr (fun H locs ls hW hl => ?_)
  clear hr
  have hr := hr3
  refine lv_lload_n hx hb dX2_weightedMean_68 rfl (lv_at hl 0 rfl) ?_
  refine lv_lload hx hb dX2_weightedMean_69 (lv_at hl 1 rfl) ?_
  obtain ⟨r_12, hc71, hr⟩ := ob1_e hr
  refine xk_l (va_runSN (As := [.long x3_4, .long x5_5]) (rest := []) ⟨hx, hb, hml, hown, hts⟩ (c_X10_quotient l D cA ad M x3_4 x5_5 hc71) ⟨va_cnB 2 hts gX2_weightedMean_X10_quotient_n164 rfl rfl rfl hK.2.2.2.2.2.2.2.2.2.2.2.2.2.2.1 (hts _ (wm 5 rfl)) (by decide +kernel) ⟨Nat.le_of_ble_eq_true rfl, Nat.le_of_ble_eq_true rfl⟩, (hts _ (wm 7 rfl)), trivial⟩ (xpreS hK hW) rfl rfl hl.1 rfl (lv_room (Nat.le_of_ble_eq_true rfl)) dX2_weightedMean_71 ⟨Nat.le_of_ble_eq_true rfl, Nat.le_of_ble_eq_true rfl⟩) hW (fun H locs hW => ?_)
  refine lv_l2i hx hb dX2_weightedMean_74 rfl ?_
  rw [← Option.some.inj hr]
  exact xiret hx hb hr0 hlocks hW adR_rf dX2_weightedMean_75

set_option maxHeartbeats 4000000 in
set_option maxRecDepth 100000 in
theorem c_X2_substituteFrom (l : Launch) (D : va_G) (cA : Nat → ClassId) (ad : Nat → Nat) (M : Mm) (x2 : Int32) {M' : Mm} (hr : f_X2_substituteFrom x2 M = some M') : Met l yX2_substituteFrom wsX2_substituteFrom ({ frames := 1, cells := 0, slots := 0, locals := 21 }) (PcX D true cA ad M [.ref (ad 232), .ref (ad 0), .int x2]) (QvX false D true cA ad M') 0 0 (AX true ad) := by
  refine Met.ofW (cc := cX2_substituteFrom) (maxL := 5) (ret := none) (by decide) rfl ?_
  intro p e s m args below meth c s₁ B hml hv
  obtain ⟨hav, hP0, hK⟩ := hv
  have hx := B.exec
  have hb := B.bytes
  have hr0 := B.returns
  have hts := atoms_spec (ws := wsX2_substituteFrom) B.pre
  have hown : s.vm.findClass RX2 = some m.cls := findClass_of_methodNamed B.named
  have hlocks := B.notSynchronized
  have hW := xstart hP0
  have hi2 : ∀ w ∈ wsX20, w ∈ wsX2_substituteFrom := fun w h => List.mem_cons_of_mem _ (List.mem_append_left _ (List.mem_append_right _ h))
  have hi3 : ∀ w ∈ wsX30, w ∈ wsX2_substituteFrom := fun w h => List.mem_cons_of_mem _ (List.mem_append_right _ h)
  have hi8 : ∀ w ∈ wsX80, w ∈ wsX2_substituteFrom := fun w h => List.mem_cons_of_mem _ (List.mem_append_left _ (List.mem_append_left _ (List.mem_append_right _ h)))
  have hl := lv_entry ([.ref (ad 232), .ref (ad 0), .int x2]) (n := 5) (Nat.le_of_ble_eq_true rfl)
  have hef := lg_entry_eq m ([.ref (ad 232), .ref (ad 0), .int x2]) 5
  rw [← hav] at hef
  rw [hef]
  clear hef
  generalize (lg_sl ([.ref (ad 232), .ref (ad 0), .int x2]) ++ List.replicate (5 - (lg_sl ([.ref (ad 232), .ref (ad 0), .int x2])).length) Slot.unset).toArray = ls at hl ⊢
  have hl : lv_has ls 5 [(0, .ref (ad 232)), (1, .ref (ad 0)), (2, .int x2)] := hl
  clear hP0
  unfold f_X2_substituteFrom at hr
  refine lv_iconst (v := (0 : Int32)) hx hb dX2_substituteFrom_0 (by decide) ?_
  refine lv_istore_n (lv' := [(3, .int (0 : Int32)), (0, .ref (ad 232)), (1, .ref (ad 0)), (2, .int x2)]) hx hb dX2_substituteFrom_1 rfl hl (by decide) rfl (fun ls hl => ?_)
  have hL2_1 : ∀ (n : Nat) (x3_1 : Int32) (M_2 : Mm) (H : Heap) (locs : List Loc) (ls : Array Slot), Xw D true cA ad M_2 (AX true ad) s.heap H locs → lv_has ls 5 [(0, .ref (ad 232)), (1, .ref (ad 0)), (2, .int x2), (3, .int x3_1)] → f_X2_substituteFrom_L2 x2 n x3_1 M_2 = some M' → W p l e (headSpec wsX2_substituteFrom { frames := 1, cells := 0, slots := 0, locals := 21 }).room s m args below meth c H locs 0 0 (MQ below (QvX false D true cA ad M') args s 0 0 (AX true ad)) (F0 m 2 ls []) := by
    intro n
    induction n with
    | zero =>
      intro x3_1 M_2 H locs ls hW hl hr
      exact absurd hr (by simp [f_X2_substituteFrom_L2])
    | succ n ih =>
      intro x3_1 M_2 H locs ls hW hl hr
      rw [f_X2_substituteFrom_L2] at hr
      refine lv_iload_n hx hb dX2_substituteFrom_2 rfl (lv_at hl 3 rfl) ?_
      refine lv_iconst (v := (4 : Int32)) hx hb dX2_substituteFrom_3 (by decide) ?_
      refine lv_icmp_ge (tgt := 72) hx hb dX2_substituteFrom_4 (by decide) (fun c1 => ?_) (fun c1 => ?_)
      · have hr := br_p c1 hr
        rw [← Option.some.inj hr]
        exact xvret hx hb hr0 hlocks hW adR_rf dX2_substituteFrom_72
      · have hr := br_n c1 hr
        refine lv_aload_n hx hb dX2_substituteFrom_7 rfl (lv_at hl 1 rfl) ?_
        refine g8_0 hx hb hts hi8 hown hK hW (k := 0) rfl (hts _ (wm 1 rfl)) dX2_substituteFrom_8 ?_
        refine lv_iload_n hx hb dX2_substituteFrom_11 rfl (lv_at hl 3 rfl) ?_
        obtain ⟨hn12, hr⟩ := chk_e hr
        refine xaald hx hb hK hW (k := 1) (t := 50) rfl (by decide) (by decide) rfl (t0 := 3) rfl hn12 dX2_substituteFrom_12 ?_
        refine lv_astore (lv' := [(4, .ref (ad (rid 50 1 (ix x3_1)))), (0, .ref (ad 232)), (1, .ref (ad 0)), (2, .int x2), (3, .int x3_1)]) hx hb dX2_substituteFrom_13 hl (by decide) rfl (fun ls hl => ?_)
        refine lv_aload_n hx hb dX2_substituteFrom_15 rfl (lv_at hl 1 rfl) ?_
        refine g2_6 hx hb hts hi2 hown hK hW (k := 232) rfl (hts _ (wm 2 rfl)) dX2_substituteFrom_16 ?_
        refine lv_iload_n hx hb dX2_substituteFrom_19 rfl (lv_at hl 4 rfl) ?_
        obtain ⟨r_3, hc20, hr⟩ := ob1_e hr
        refine xk_i (va_runSN (As := [.int (gI M_2 232 6), .int x3_1]) (rest := []) ⟨hx, hb, hml, hown, hts⟩ (c_X10_contains l D cA ad M_2 (gI M_2 232 6) x3_1 hc20) ⟨va_cnB 2 hts gX2_substituteFrom_X10_contains_n154 rfl rfl rfl hK.2.2.2.2.2.2.2.2.2.2.2.2.2.1 (hts _ (wm 9 rfl)) (by decide +kernel) ⟨Nat.le_of_ble_eq_true rfl, Nat.le_of_ble_eq_true rfl⟩, (hts _ (wm 8 rfl)), trivial⟩ (xpreS hK hW) rfl rfl hl.1 rfl (lv_room (Nat.le_of_ble_eq_true rfl)) dX2_substituteFrom_20 ⟨Nat.le_of_ble_eq_true rfl, Nat.le_of_ble_eq_true rfl⟩) hW (fun H locs hW => ?_)
        obtain ⟨M_4, hr, hr3⟩ := ob1_e hr
        have hj66_4 : ∀ (H : Heap) (locs : List Loc) (ls : Array Slot), Xw D true cA ad M_4 (AX true ad) s.heap H locs → lv_has ls 5 [(0, .ref (ad 232)), (1, .ref (ad 0)), (2, .int x2), (3, .int x3_1)] → W p l e (headSpec wsX2_substituteFrom { frames := 1, cells := 0, slots := 0, locals := 21 }).room s m args below meth c H locs 0 0 (MQ below (QvX false D true cA ad M') args s 0 0 (AX true ad)) (F0 m 66 ls []) := by
          intro H locs ls hW hl
          have hr := hr3
          obtain ⟨x3_7, ex3_7, hr⟩ := lt1_e hr
          refine lv_iinc (v := x3_7) (lv' := [(3, .int x3_7), (0, .ref (ad 232)), (1, .ref (ad 0)), (2, .int x2)]) hx hb dX2_substituteFrom_66 hl (k := 3) rfl (by rw [ex3_7]; rfl) (by decide) rfl (fun ls hl => ?_)
          refine lv_goto (tgt := 2) hx hb dX2_substituteFrom_69 (by decide) ?_
          exact ih x3_7 M_4 _ _ _ hW (lv_sub hl [1, 2, 3, 0] rfl) hr
        clear hr3
        refine lv_if_ne (tgt := 66) hx hb dX2_substituteFrom_23 (by decide) (fun c1 => ?_) (fun c1 => ?_)
        · have hr := br_n c1 hr
          have e1 := Option.some.inj hr
          subst e1
          exact hj66_4 _ _ _ hW (lv_sub hl [1, 2, 3, 4] rfl)
        · have hr := br_p c1 hr
          refine lv_aload hx hb dX2_substituteFrom_26 (lv_at hl 0 rfl) ?_
          refine g3_8 hx hb hts hi3 hown hK hW (k := (rid 50 1 (ix x3_1))) (ks_50 (k := 1) rfl hn12) (hts _ (wm 3 rfl)) dX2_substituteFrom_28 ?_
          refine lv_if_eq (tgt := 66) hx hb dX2_substituteFrom_31 (by decide) (fun c1 => ?_) (fun c1 => ?_)
          · have hr := br_p c1 hr
            have e1 := Option.some.inj hr
            subst e1
            exact hj66_4 _ _ _ hW (lv_sub hl [1, 2, 3, 4] rfl)
          · have hr := br_n c1 hr
            refine lv_aload_n hx hb dX2_substituteFrom_34 rfl (lv_at hl 1 rfl) ?_
            refine g2_4 hx hb hts hi2 hown hK hW (k := 232) rfl (hts _ (wm 4 rfl)) dX2_substituteFrom_35 ?_
            refine lv_iload_n hx hb dX2_substituteFrom_38 rfl (lv_at hl 4 rfl) ?_
            refine lv_iload_n hx hb dX2_substituteFrom_39 rfl (lv_at hl 3 rfl) ?_
            refine lv_i2l hx hb dX2_substituteFrom_40 rfl ?_
            refine lv_aload hx hb dX2_substituteFrom_41 (lv_at hl 0 rfl) ?_
            refine g3_9 hx hb hts hi3 hown hK hW (k := (rid 50 1 (ix x3_1))) (ks_50 (k := 1) rfl hn12) (hts _ (wm 5 rfl)) dX2_substituteFrom_43 ?_
            refine lv_i2l hx hb dX2_substituteFrom_46 rfl ?_
            refine lv_lmul hx hb dX2_substituteFrom_47 ?_
            refine lv_ldc2 (v := (1000 : Int64)) hx hb hown (hts _ (wm 6 rfl)) dX2_substituteFrom_48 ?_
            refine lv_ldiv hx hb dX2_substituteFrom_51 (by decide) ?_
            refine lv_l2i hx hb dX2_substituteFrom_52 rfl ?_
            obtain ⟨hn53, hr⟩ := chk_e hr
            obtain ⟨M_5, eM_5, hr⟩ := lt1_e hr
            refine xiast hx hb hK hW (k := 237) (t := 20) rfl (by decide) (by decide) rfl (n := 4) hn53 (jx := (ix x3_1)) rfl dX2_substituteFrom_53 (fun H locs hW => ?_)
            rw [← eM_5] at hW
            refine lv_aload_n hx hb dX2_substituteFrom_54 rfl (lv_at hl 1 rfl) ?_
            refine lv_dup hx hb dX2_substituteFrom_55 rfl ?_
            refine g2_8 hx hb hts hi2 hown hK hW (k := 232) rfl (hts _ (wm 7 rfl)) dX2_substituteFrom_56 ?_
            refine lv_iconst (v := (1 : Int32)) hx hb dX2_substituteFrom_59 (by decide) ?_
            refine lv_iload_n hx hb dX2_substituteFrom_60 rfl (lv_at hl 4 rfl) ?_
            refine lv_ishl hx hb dX2_substituteFrom_61 ?_
            refine lv_ior hx hb dX2_substituteFrom_62 ?_
            obtain ⟨M_6, eM_6, hr⟩ := lt1_e hr
            refine p2_8 hx hb hts hi2 hown hK hW (k := 232) rfl (hts _ (wm 7 rfl)) dX2_substituteFrom_63 (fun H locs hW => ?_)
            rw [← eM_6] at hW
            have e1 := Option.some.inj hr
            subst e1
            exact hj66_4 _ _ _ hW (lv_sub hl [1, 2, 3, 4] rfl)
  exact hL2_1 1000 (0 : Int32) M _ _ _ hW (lv_sub hl [1, 2, 3, 0] rfl) hr

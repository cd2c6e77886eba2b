set_option maxHeartbeats 4000000 in
set_option maxRecDepth 100000 in
theorem c_X10_limited (l : Launch) (D : va_G) (cA : Nat → ClassId) (ad : Nat → Nat) (M : Mm) (x0 : Int64) (x2 : Int32) {r : Int32} (hr : f_X10_limited x0 x2 M = some r) : Met l yX10_limited wsX10_limited ({ frames := 0, cells := 0, slots := 0, locals := 0 }) (PcX D true cA ad M [.long x0, .int x2]) (QiX false D true cA ad r M) 0 0 (AX true ad) := by
  refine Met.ofW (cc := cX10_limited) (maxL := 3) (ret := (some .int)) (by decide) rfl ?_
  intro p e s m args below meth c s₁ B hml hv
  obtain ⟨hav, hP0, hK⟩ := hv
  have hx := B.exec
  have hb := B.bytes
  have hr0 := B.returns
  have hts := atoms_spec (ws := wsX10_limited) B.pre
  have hown : s.vm.findClass RX10 = some m.cls := findClass_of_methodNamed B.named
  have hlocks := B.notSynchronized
  have hW := xstart hP0
  have hl := lv_entry ([.long x0, .int x2]) (n := 3) (Nat.le_of_ble_eq_true rfl)
  have hef := lg_entry_eq m ([.long x0, .int x2]) 3
  rw [← hav] at hef
  rw [hef]
  clear hef
  generalize (lg_sl ([.long x0, .int x2]) ++ List.replicate (3 - (lg_sl ([.long x0, .int x2])).length) Slot.unset).toArray = ls at hl ⊢
  have hl : lv_has ls 3 [(0, .long x0), (2, .int x2)] := hl
  clear hP0
  unfold f_X10_limited at hr
  refine lv_lload_n hx hb dX10_limited_0 rfl (lv_at hl 0 rfl) ?_
  refine lv_iload_n hx hb dX10_limited_1 rfl (lv_at hl 1 rfl) ?_
  refine lv_i2l hx hb dX10_limited_2 rfl ?_
  refine xlc_le (tgt := 11) hx hb dX10_limited_3 dX10_limited_4 (by decide) (fun c1 => ?_) (fun c1 => ?_)
  · have hr := br_p c1 hr
    refine lv_lload_n hx hb dX10_limited_11 rfl (lv_at hl 0 rfl) ?_
    refine lv_iload_n hx hb dX10_limited_12 rfl (lv_at hl 1 rfl) ?_
    refine lv_ineg hx hb dX10_limited_13 ?_
    refine lv_i2l hx hb dX10_limited_14 rfl ?_
    refine xlc_ge (tgt := 24) hx hb dX10_limited_15 dX10_limited_16 (by decide) (fun c1 => ?_) (fun c1 => ?_)
    · have hr := br_p c1 hr
      refine lv_lload_n hx hb dX10_limited_24 rfl (lv_at hl 0 rfl) ?_
      refine lv_l2i hx hb dX10_limited_25 rfl ?_
      rw [← Option.some.inj hr]
      exact xiret hx hb hr0 hlocks hW adR_rf dX10_limited_26
    · have hr := br_n c1 hr
      refine lv_iload_n hx hb dX10_limited_19 rfl (lv_at hl 1 rfl) ?_
      refine lv_ineg hx hb dX10_limited_20 ?_
      refine lv_goto (tgt := 26) hx hb dX10_limited_21 (by decide) ?_
      rw [← Option.some.inj hr]
      exact xiret hx hb hr0 hlocks hW adR_rf dX10_limited_26
  · have hr := br_n c1 hr
    refine lv_iload_n hx hb dX10_limited_7 rfl (lv_at hl 1 rfl) ?_
    refine lv_goto (tgt := 26) hx hb dX10_limited_8 (by decide) ?_
    rw [← Option.some.inj hr]
    exact xiret hx hb hr0 hlocks hW adR_rf dX10_limited_26

set_option maxHeartbeats 4000000 in
set_option maxRecDepth 100000 in
theorem c_X3_velocityFrom (l : Launch) (D : va_G) (cA : Nat → ClassId) (ad : Nat → Nat) (M : Mm) (a0 : Nat) (x1 : Int32) (x2 : Int32) {r : Int32} (ha0 : KS true a0 = 3) (hr : f_X3_velocityFrom a0 x1 x2 M = some r) : Met l yX3_velocityFrom wsX3_velocityFrom ({ frames := 1, cells := 0, slots := 0, locals := 23 }) (PcX D true cA ad M [.ref (ad a0), .int x1, .int x2]) (QiX false D true cA ad r M) 0 0 (AX true ad) := by
  refine Met.ofW (cc := cX3_velocityFrom) (maxL := 9) (ret := (some .int)) (by decide) rfl ?_
  intro p e s m args below meth c s₁ B hml hv
  obtain ⟨hav, hP0, hK⟩ := hv
  have hx := B.exec
  have hb := B.bytes
  have hr0 := B.returns
  have hts := atoms_spec (ws := wsX3_velocityFrom) B.pre
  have hown : s.vm.findClass RX3 = some m.cls := findClass_of_methodNamed B.named
  have hlocks := B.notSynchronized
  have hW := xstart hP0
  have hi3 : ∀ w ∈ wsX30, w ∈ wsX3_velocityFrom := fun w h => List.mem_cons_of_mem _ (List.mem_append_right _ h)
  have hl := lv_entry ([.ref (ad a0), .int x1, .int x2]) (n := 9) (Nat.le_of_ble_eq_true rfl)
  have hef := lg_entry_eq m ([.ref (ad a0), .int x1, .int x2]) 9
  rw [← hav] at hef
  rw [hef]
  clear hef
  generalize (lg_sl ([.ref (ad a0), .int x1, .int x2]) ++ List.replicate (9 - (lg_sl ([.ref (ad a0), .int x1, .int x2])).length) Slot.unset).toArray = ls at hl ⊢
  have hl : lv_has ls 9 [(0, .ref (ad a0)), (1, .int x1), (2, .int x2)] := hl
  clear hP0
  unfold f_X3_velocityFrom at hr
  refine lv_iload_n hx hb dX3_velocityFrom_0 rfl (lv_at hl 1 rfl) ?_
  refine lv_aload_n hx hb dX3_velocityFrom_1 rfl (lv_at hl 0 rfl) ?_
  refine g3_4 hx hb hts hi3 hown hK hW (k := a0) ha0 (hts _ (wm 1 rfl)) dX3_velocityFrom_2 ?_
  refine lv_isub hx hb dX3_velocityFrom_5 ?_
  refine lv_i2l hx hb dX3_velocityFrom_6 rfl ?_
  obtain ⟨x3_1, ex3_1, hr⟩ := lt1_e hr
  rw [← ex3_1]
  refine lv_lstore_n (lv' := [(3, .long x3_1), (0, .ref (ad a0)), (1, .int x1), (2, .int x2)]) hx hb dX3_velocityFrom_7 rfl hl (by decide) rfl (fun ls hl => ?_)
  refine lv_iload_n hx hb dX3_velocityFrom_8 rfl (lv_at hl 3 rfl) ?_
  refine lv_aload_n hx hb dX3_velocityFrom_9 rfl (lv_at hl 1 rfl) ?_
  refine g3_4 hx hb hts hi3 hown hK hW (k := a0) ha0 (hts _ (wm 1 rfl)) dX3_velocityFrom_10 ?_
  refine lv_isub hx hb dX3_velocityFrom_13 ?_
  refine lv_i2l hx hb dX3_velocityFrom_14 rfl ?_
  obtain ⟨x5_2, ex5_2, hr⟩ := lt1_e hr
  rw [← ex5_2]
  refine lv_lstore (lv' := [(5, .long x5_2), (3, .long x3_1), (0, .ref (ad a0)), (1, .int x1), (2, .int x2)]) hx hb dX3_velocityFrom_15 hl (by decide) rfl (fun ls hl => ?_)
  refine lv_aload_n hx hb dX3_velocityFrom_17 rfl (lv_at hl 2 rfl) ?_
  refine g3_0 hx hb hts hi3 hown hK hW (k := a0) ha0 (hts _ (wm 2 rfl)) dX3_velocityFrom_18 ?_
  refine lv_i2l hx hb dX3_velocityFrom_21 rfl ?_
  refine lv_aload_n hx hb dX3_velocityFrom_22 rfl (lv_at hl 2 rfl) ?_
  refine g3_0 hx hb hts hi3 hown hK hW (k := a0) ha0 (hts _ (wm 2 rfl)) dX3_velocityFrom_23 ?_
  refine lv_i2l hx hb dX3_velocityFrom_26 rfl ?_
  refine lv_lmul hx hb dX3_velocityFrom_27 ?_
  refine lv_ldc2 (v := (500000 : Int64)) hx hb hown (hts _ (wm 3 rfl)) dX3_velocityFrom_28 ?_
  refine lv_lmul hx hb dX3_velocityFrom_31 ?_
  refine lv_aload_n hx hb dX3_velocityFrom_32 rfl (lv_at hl 2 rfl) ?_
  refine g3_1 hx hb hts hi3 hown hK hW (k := a0) ha0 (hts _ (wm 4 rfl)) dX3_velocityFrom_33 ?_
  refine lv_i2l hx hb dX3_velocityFrom_36 rfl ?_
  obtain ⟨r_3, hc37, hr⟩ := ob1_e hr
  refine xk_l (va_runSN (As := [.long (((Int32.toInt64 (gI M a0 0)) * (Int32.toInt64 (gI M a0 0))) * (500000 : Int64)), .long (Int32.toInt64 (gI M a0 1))]) (rest := []) ⟨hx, hb, hml, hown, hts⟩ (c_X10_quotient l D cA ad M (((Int32.toInt64 (gI M a0 0)) * (Int32.toInt64 (gI M a0 0))) * (500000 : Int64)) (Int32.toInt64 (gI M a0 1)) hc37) ⟨va_cnB 2 hts gX3_velocityFrom_X10_quotient_n94 rfl rfl rfl hK.2.2.2.2.2.2.2.2.2.2.1 (hts _ (wm 8 rfl)) (by decide +kernel) ⟨Nat.le_of_ble_eq_true rfl, Nat.le_of_ble_eq_true rfl⟩, (hts _ (wm 7 rfl)), trivial⟩ (xpreS hK hW) rfl rfl hl.1 rfl (lv_room (Nat.le_of_ble_eq_true rfl)) dX3_velocityFrom_37 ⟨Nat.le_of_ble_eq_true rfl, Nat.le_of_ble_eq_true rfl⟩) hW (fun H locs hW => ?_)
  refine lv_lstore (lv' := [(7, .long r_3), (5, .long x5_2), (3, .long x3_1), (0, .ref (ad a0)), (1, .int x1), (2, .int x2)]) hx hb dX3_velocityFrom_40 hl (by decide) rfl (fun ls hl => ?_)
  refine lv_lload hx hb dX3_velocityFrom_42 (lv_at hl 0 rfl) ?_
  refine lv_lload hx hb dX3_velocityFrom_44 (lv_at hl 1 rfl) ?_
  refine lv_lload_n hx hb dX3_velocityFrom_46 rfl (lv_at hl 2 rfl) ?_
  refine lv_lsub hx hb dX3_velocityFrom_47 ?_
  refine lv_lmul hx hb dX3_velocityFrom_48 ?_
  refine lv_lload_n hx hb dX3_velocityFrom_49 rfl (lv_at hl 2 rfl) ?_
  refine lv_lload hx hb dX3_velocityFrom_50 (lv_at hl 1 rfl) ?_
  refine lv_lmul hx hb dX3_velocityFrom_52 ?_
  refine lv_ldc2 (v := (1000 : Int64)) hx hb hown (hts _ (wm 5 rfl)) dX3_velocityFrom_53 ?_
  refine lv_ldiv hx hb dX3_velocityFrom_56 (by decide) ?_
  obtain ⟨r_4, hc57, hr⟩ := ob1_e hr
  refine xk_l (va_runSN (As := [.long (r_3 * (x5_2 - x3_1)), .long ((x3_1 * x5_2) / (1000 : Int64))]) (rest := []) ⟨hx, hb, hml, hown, hts⟩ (c_X10_quotient l D cA ad M (r_3 * (x5_2 - x3_1)) ((x3_1 * x5_2) / (1000 : Int64)) hc57) ⟨va_cnB 2 hts gX3_velocityFrom_X10_quotient_n94 rfl rfl rfl hK.2.2.2.2.2.2.2.2.2.2.1 (hts _ (wm 8 rfl)) (by decide +kernel) ⟨Nat.le_of_ble_eq_true rfl, Nat.le_of_ble_eq_true rfl⟩, (hts _ (wm 7 rfl)), trivial⟩ (xpreS hK hW) rfl rfl hl.1 rfl (lv_room (Nat.le_of_ble_eq_true rfl)) dX3_velocityFrom_57 ⟨Nat.le_of_ble_eq_true rfl, Nat.le_of_ble_eq_true rfl⟩) hW (fun H locs hW => ?_)
  refine lv_ldc (v := (100000 : Int32)) hx hb hown (hts _ (wm 6 rfl)) dX3_velocityFrom_60 ?_
  obtain ⟨r_5, hc62, hr⟩ := ob1_e hr
  refine xk_i (va_runSN (As := [.long r_4, .int (100000 : Int32)]) (rest := []) ⟨hx, hb, hml, hown, hts⟩ (c_X10_limited l D cA ad M r_4 (100000 : Int32) hc62) ⟨va_cnB 2 hts gX3_velocityFrom_X10_limited_n101 rfl rfl rfl hK.2.2.2.2.2.2.2.2.2.2.2.2.1 (hts _ (wm 8 rfl)) (by decide +kernel) ⟨Nat.le_of_ble_eq_true rfl, Nat.le_of_ble_eq_true rfl⟩, (hts _ (wm 10 rfl)), trivial⟩ (xpreS hK hW) rfl rfl hl.1 rfl (lv_room (Nat.le_of_ble_eq_true rfl)) dX3_velocityFrom_62 ⟨Nat.le_of_ble_eq_true rfl, Nat.le_of_ble_eq_true rfl⟩) hW (fun H locs hW => ?_)
  rw [← Option.some.inj hr]
  exact xiret hx hb hr0 hlocks hW adR_rf dX3_velocityFrom_65

set_option maxHeartbeats 4000000 in
set_option maxRecDepth 100000 in
theorem c_X2_decideOutcomes (l : Launch) (D : va_G) (cA : Nat → ClassId) (ad : Nat → Nat) (M : Mm) (x2 : Int32) {M' : Mm} (hr : f_X2_decideOutcomes x2 M = some M') : Met l yX2_decideOutcomes wsX2_decideOutcomes ({ frames := 2, cells := 0, slots := 0, locals := 51 }) (PcX D true cA ad M [.ref (ad 232), .ref (ad 0), .int x2]) (QvX false D true cA ad M') 0 0 (AX true ad) := by
  refine Met.ofW (cc := cX2_decideOutcomes) (maxL := 9) (ret := none) (by decide) rfl ?_
  intro p e s m args below meth c s₁ B hml hv
  obtain ⟨hav, hP0, hK⟩ := hv
  have hx := B.exec
  have hb := B.bytes
  have hr0 := B.returns
  have hts := atoms_spec (ws := wsX2_decideOutcomes) B.pre
  have hown : s.vm.findClass RX2 = some m.cls := findClass_of_methodNamed B.named
  have hlocks := B.notSynchronized
  have hW := xstart hP0
  have hi2 : ∀ w ∈ wsX20, w ∈ wsX2_decideOutcomes := fun w h => List.mem_cons_of_mem _ (List.mem_append_left _ (List.mem_append_left _ (List.mem_append_left _ (List.mem_append_right _ h))))
  have hi3 : ∀ w ∈ wsX30, w ∈ wsX2_decideOutcomes := fun w h => List.mem_cons_of_mem _ (List.mem_append_left _ (List.mem_append_right _ h))
  have hi7 : ∀ w ∈ wsX70, w ∈ wsX2_decideOutcomes := fun w h => List.mem_cons_of_mem _ (List.mem_append_right _ h)
  have hi8 : ∀ w ∈ wsX80, w ∈ wsX2_decideOutcomes := fun w h => List.mem_cons_of_mem _ (List.mem_append_left _ (List.mem_append_left _ (List.mem_append_right _ h)))
  have hl := lv_entry ([.ref (ad 232), .ref (ad 0), .int x2]) (n := 9) (Nat.le_of_ble_eq_true rfl)
  have hef := lg_entry_eq m ([.ref (ad 232), .ref (ad 0), .int x2]) 9
  rw [← hav] at hef
  rw [hef]
  clear hef
  generalize (lg_sl ([.ref (ad 232), .ref (ad 0), .int x2]) ++ List.replicate (9 - (lg_sl ([.ref (ad 232), .ref (ad 0), .int x2])).length) Slot.unset).toArray = ls at hl ⊢
  have hl : lv_has ls 9 [(0, .ref (ad 232)), (1, .ref (ad 0)), (2, .int x2)] := hl
  clear hP0
  unfold f_X2_decideOutcomes at hr
  refine lv_aload_n hx hb dX2_decideOutcomes_0 rfl (lv_at hl 0 rfl) ?_
  refine lv_iconst (v := (0 : Int32)) hx hb dX2_decideOutcomes_1 (by decide) ?_
  obtain ⟨M_1, eM_1, hr⟩ := lt1_e hr
  refine p2_6 hx hb hts hi2 hown hK hW (k := 232) rfl (hts _ (wm 1 rfl)) dX2_decideOutcomes_2 (fun H locs hW => ?_)
  rw [← eM_1] at hW
  refine lv_aload_n hx hb dX2_decideOutcomes_5 rfl (lv_at hl 0 rfl) ?_
  refine lv_iconst (v := (0 : Int32)) hx hb dX2_decideOutcomes_6 (by decide) ?_
  obtain ⟨M_2, eM_2, hr⟩ := lt1_e hr
  refine p2_7 hx hb hts hi2 hown hK hW (k := 232) rfl (hts _ (wm 2 rfl)) dX2_decideOutcomes_7 (fun H locs hW => ?_)
  rw [← eM_2] at hW
  refine lv_iconst (v := (0 : Int32)) hx hb dX2_decideOutcomes_10 (by decide) ?_
  refine lv_istore_n (lv' := [(3, .int (0 : Int32)), (0, .ref (ad 232)), (1, .ref (ad 0)), (2, .int x2)]) hx hb dX2_decideOutcomes_11 rfl hl (by decide) rfl (fun ls hl => ?_)
  have hL12_1 : ∀ (n : Nat) (x3_3 : Int32) (M_4 : Mm) (H : Heap) (locs : List Loc) (ls : Array Slot), Xw D true cA ad M_4 (AX true ad) s.heap H locs → lv_has ls 9 [(0, .ref (ad 232)), (1, .ref (ad 0)), (2, .int x2), (3, .int x3_3)] → f_X2_decideOutcomes_L12 x2 n x3_3 M_4 = some M' → W p l e (headSpec wsX2_decideOutcomes { frames := 2, cells := 0, slots := 0, locals := 51 }).room s m args below meth c H locs 0 0 (MQ below (QvX false D true cA ad M') args s 0 0 (AX true ad)) (F0 m 12 ls []) := by
    intro n
    induction n with
    | zero =>
      intro x3_3 M_4 H locs ls hW hl hr
      exact absurd hr (by simp [f_X2_decideOutcomes_L12])
    | succ n ih =>
      intro x3_3 M_4 H locs ls hW hl hr
      rw [f_X2_decideOutcomes_L12] at hr
      refine lv_iload_n hx hb dX2_decideOutcomes_12 rfl (lv_at hl 3 rfl) ?_
      refine lv_iconst (v := (4 : Int32)) hx hb dX2_decideOutcomes_13 (by decide) ?_
      refine lv_icmp_ge (tgt := 251) hx hb dX2_decideOutcomes_14 (by decide) (fun c1 => ?_) (fun c1 => ?_)
      · have hr := br_p c1 hr
        rw [← Option.some.inj hr]
        exact xvret hx hb hr0 hlocks hW adR_rf dX2_decideOutcomes_251
      · have hr := br_n c1 hr
        refine lv_aload_n hx hb dX2_decideOutcomes_17 rfl (lv_at hl 1 rfl) ?_
        refine g8_0 hx hb hts hi8 hown hK hW (k := 0) rfl (hts _ (wm 3 rfl)) dX2_decideOutcomes_18 ?_
        refine lv_iload_n hx hb dX2_decideOutcomes_21 rfl (lv_at hl 3 rfl) ?_
        obtain ⟨hn22, hr⟩ := chk_e hr
        refine xaald hx hb hK hW (k := 1) (t := 50) rfl (by decide) (by decide) rfl (t0 := 3) rfl hn22 dX2_decideOutcomes_22 ?_
        refine lv_astore (lv' := [(4, .ref (ad (rid 50 1 (ix x3_3)))), (0, .ref (ad 232)), (1, .ref (ad 0)), (2, .int x2), (3, .int x3_3)]) hx hb dX2_decideOutcomes_23 hl (by decide) rfl (fun ls hl => ?_)
        refine lv_aload hx hb dX2_decideOutcomes_25 (lv_at hl 0 rfl) ?_
        refine g3_15 hx hb hts hi3 hown hK hW (k := (rid 50 1 (ix x3_3))) (ks_50 (k := 1) rfl hn22) (hts _ (wm 4 rfl)) dX2_decideOutcomes_27 ?_
        refine lv_astore (lv' := [(5, .ref (ad ((rid 50 1 (ix x3_3)) + 1))), (4, .ref (ad (rid 50 1 (ix x3_3)))), (0, .ref (ad 232)), (1, .ref (ad 0)), (2, .int x2), (3, .int x3_3)]) hx hb dX2_decideOutcomes_30 hl (by decide) rfl (fun ls hl => ?_)
        refine lv_aload hx hb dX2_decideOutcomes_32 (lv_at hl 0 rfl) ?_
        refine g7_1 hx hb hts hi7 hown hK hW (k := ((rid 50 1 (ix x3_3)) + 1)) (ks_3s (ks_50 (k := 1) rfl hn22)) (hts _ (wm 5 rfl)) dX2_decideOutcomes_34 ?_
        refine lv_aload_n hx hb dX2_decideOutcomes_37 rfl (lv_at hl 2 rfl) ?_
        refine g2_1 hx hb hts hi2 hown hK hW (k := 232) rfl (hts _ (wm 6 rfl)) dX2_decideOutcomes_38 ?_
        refine lv_iload_n hx hb dX2_decideOutcomes_41 rfl (lv_at hl 5 rfl) ?_
        obtain ⟨hn42, hr⟩ := chk_e hr
        refine xiald hx hb hK hW (k := 234) (t := 20) rfl (by decide) (by decide) rfl (n := 4) hn42 (jx := (ix x3_3)) rfl dX2_decideOutcomes_42 ?_
        refine lv_aload hx hb dX2_decideOutcomes_43 (lv_at hl 1 rfl) ?_
        refine g3_3 hx hb hts hi3 hown hK hW (k := (rid 50 1 (ix x3_3))) (ks_50 (k := 1) rfl hn22) (hts _ (wm 7 rfl)) dX2_decideOutcomes_45 ?_
        refine lv_imul hx hb dX2_decideOutcomes_48 ?_
        refine lv_isub hx hb dX2_decideOutcomes_49 ?_
        obtain ⟨x6_5, ex6_5, hr⟩ := lt1_e hr
        rw [← ex6_5]
        refine lv_istore (lv' := [(6, .int x6_5), (5, .ref (ad ((rid 50 1 (ix x3_3)) + 1))), (4, .ref (ad (rid 50 1 (ix x3_3)))), (0, .ref (ad 232)), (1, .ref (ad 0)), (2, .int x2), (3, .int x3_3)]) hx hb dX2_decideOutcomes_50 hl (by decide) rfl (fun ls hl => ?_)
        refine lv_aload hx hb dX2_decideOutcomes_52 (lv_at hl 1 rfl) ?_
        refine g7_2 hx hb hts hi7 hown hK hW (k := ((rid 50 1 (ix x3_3)) + 1)) (ks_3s (ks_50 (k := 1) rfl hn22)) (hts _ (wm 8 rfl)) dX2_decideOutcomes_54 ?_
        refine lv_aload_n hx hb dX2_decideOutcomes_57 rfl (lv_at hl 3 rfl) ?_
        refine g2_2 hx hb hts hi2 hown hK hW (k := 232) rfl (hts _ (wm 9 rfl)) dX2_decideOutcomes_58 ?_
        refine lv_iload_n hx hb dX2_decideOutcomes_61 rfl (lv_at hl 6 rfl) ?_
        obtain ⟨hn62, hr⟩ := chk_e hr
        refine xiald hx hb hK hW (k := 235) (t := 20) rfl (by decide) (by decide) rfl (n := 4) hn62 (jx := (ix x3_3)) rfl dX2_decideOutcomes_62 ?_
        refine lv_aload hx hb dX2_decideOutcomes_63 (lv_at hl 2 rfl) ?_
        refine g3_3 hx hb hts hi3 hown hK hW (k := (rid 50 1 (ix x3_3))) (ks_50 (k := 1) rfl hn22) (hts _ (wm 7 rfl)) dX2_decideOutcomes_65 ?_
        refine lv_imul hx hb dX2_decideOutcomes_68 ?_
        refine lv_isub hx hb dX2_decideOutcomes_69 ?_
        obtain ⟨x7_6, ex7_6, hr⟩ := lt1_e hr
        rw [← ex7_6]
        refine lv_istore (lv' := [(7, .int x7_6), (6, .int x6_5), (5, .ref (ad ((rid 50 1 (ix x3_3)) + 1))), (4, .ref (ad (rid 50 1 (ix x3_3)))), (0, .ref (ad 232)), (1, .ref (ad 0)), (2, .int x2), (3, .int x3_3)]) hx hb dX2_decideOutcomes_70 hl (by decide) rfl (fun ls hl => ?_)
        refine lv_aload_n hx hb dX2_decideOutcomes_72 rfl (lv_at hl 4 rfl) ?_
        refine g2_1 hx hb hts hi2 hown hK hW (k := 232) rfl (hts _ (wm 6 rfl)) dX2_decideOutcomes_73 ?_
        refine lv_iload_n hx hb dX2_decideOutcomes_76 rfl (lv_at hl 7 rfl) ?_
        obtain ⟨hn77, hr⟩ := chk_e hr
        refine xiald hx hb hK hW (k := 234) (t := 20) rfl (by decide) (by decide) rfl (n := 4) hn77 (jx := (ix x3_3)) rfl dX2_decideOutcomes_77 ?_
        refine va_mabs hx hb (hml.trans hl.1.symm) hown (hts _ (wm 10 rfl)) (hts _ (wm 11 rfl)) (hts _ (wm 12 rfl)) (hts _ (wm 13 rfl)) (Nat.le_of_ble_eq_true rfl) (Nat.le_of_ble_eq_true rfl) (Nat.zero_le _) (Nat.zero_le _) dX2_decideOutcomes_78 (show W p l e _ s m _ below meth c _ _ _ _ _ (F0 m _ _ (Value.int (jabs (gI M_4 234 (ix x3_3))) :: _)) from ?_)
        refine lv_aload_n hx hb dX2_decideOutcomes_81 rfl (lv_at hl 4 rfl) ?_
        refine g2_2 hx hb hts hi2 hown hK hW (k := 232) rfl (hts _ (wm 9 rfl)) dX2_decideOutcomes_82 ?_
        refine lv_iload_n hx hb dX2_decideOutcomes_85 rfl (lv_at hl 7 rfl) ?_
        obtain ⟨hn86, hr⟩ := chk_e hr
        refine xiald hx hb hK hW (k := 235) (t := 20) rfl (by decide) (by decide) rfl (n := 4) hn86 (jx := (ix x3_3)) rfl dX2_decideOutcomes_86 ?_
        refine va_mabs hx hb (hml.trans hl.1.symm) hown (hts _ (wm 10 rfl)) (hts _ (wm 11 rfl)) (hts _ (wm 12 rfl)) (hts _ (wm 13 rfl)) (Nat.le_of_ble_eq_true rfl) (Nat.le_of_ble_eq_true rfl) (Nat.zero_le _) (Nat.zero_le _) dX2_decideOutcomes_87 (show W p l e _ s m _ below meth c _ _ _ _ _ (F0 m _ _ (Value.int (jabs (gI M_4 235 (ix x3_3))) :: _)) from ?_)
        refine va_mmax hx hb (hml.trans hl.1.symm) hown (hts _ (wm 14 rfl)) (hts _ (wm 15 rfl)) (hts _ (wm 12 rfl)) (hts _ (wm 16 rfl)) (Nat.le_of_ble_eq_true rfl) (Nat.le_of_ble_eq_true rfl) (Nat.zero_le _) (Nat.zero_le _) dX2_decideOutcomes_90 (show W p l e _ s m _ below meth c _ _ _ _ _ (F0 m _ _ (Value.int (jmax (jabs (gI M_4 234 (ix x3_3))) (jabs (gI M_4 235 (ix x3_3)))) :: _)) from ?_)
        obtain ⟨x8_7, ex8_7, hr⟩ := lt1_e hr
        rw [← ex8_7]
        refine lv_istore (lv' := [(8, .int x8_7), (7, .int x7_6), (6, .int x6_5), (5, .ref (ad ((rid 50 1 (ix x3_3)) + 1))), (4, .ref (ad (rid 50 1 (ix x3_3)))), (0, .ref (ad 232)), (1, .ref (ad 0)), (2, .int x2), (3, .int x3_3)]) hx hb dX2_decideOutcomes_93 hl (by decide) rfl (fun ls hl => ?_)
        refine lv_aload_n hx hb dX2_decideOutcomes_95 rfl (lv_at hl 5 rfl) ?_
        refine g2_4 hx hb hts hi2 hown hK hW (k := 232) rfl (hts _ (wm 17 rfl)) dX2_decideOutcomes_96 ?_
        refine lv_iload_n hx hb dX2_decideOutcomes_99 rfl (lv_at hl 8 rfl) ?_
        refine lv_ldc (v := (-2000000005 : Int32)) hx hb hown (hts _ (wm 18 rfl)) dX2_decideOutcomes_100 ?_
        obtain ⟨hn102, hr⟩ := chk_e hr
        obtain ⟨M_8, eM_8, hr⟩ := lt1_e hr
        refine xiast hx hb hK hW (k := 237) (t := 20) rfl (by decide) (by decide) rfl (n := 4) hn102 (jx := (ix x3_3)) rfl dX2_decideOutcomes_102 (fun H locs hW => ?_)
        rw [← eM_8] at hW
        refine lv_aload hx hb dX2_decideOutcomes_103 (lv_at hl 3 rfl) ?_
        refine g7_0 hx hb hts hi7 hown hK hW (k := ((rid 50 1 (ix x3_3)) + 1)) (ks_3s (ks_50 (k := 1) rfl hn22)) (hts _ (wm 19 rfl)) dX2_decideOutcomes_105 ?_
        obtain ⟨M_9, hr, hr3⟩ := ob1_e hr
        have hj245_9 : ∀ (H : Heap) (locs : List Loc) (ls : Array Slot), Xw D true cA ad M_9 (AX true ad) s.heap H locs → lv_has ls 9 [(0, .ref (ad 232)), (1, .ref (ad 0)), (2, .int x2), (3, .int x3_3)] → W p l e (headSpec wsX2_decideOutcomes { frames := 2, cells := 0, slots := 0, locals := 51 }).room s m args below meth c H locs 0 0 (MQ below (QvX false D true cA ad M') args s 0 0 (AX true ad)) (F0 m 245 ls []) := by
          intro H locs ls hW hl
          have hr := hr3
          obtain ⟨x3_24, ex3_24, hr⟩ := lt1_e hr
          refine lv_iinc (v := x3_24) (lv' := [(3, .int x3_24), (0, .ref (ad 232)), (1, .ref (ad 0)), (2, .int x2)]) hx hb dX2_decideOutcomes_245 hl (k := 3) rfl (by rw [ex3_24]; rfl) (by decide) rfl (fun ls hl => ?_)
          refine lv_goto (tgt := 12) hx hb dX2_decideOutcomes_248 (by decide) ?_
          exact ih x3_24 M_9 _ _ _ hW (lv_sub hl [1, 2, 3, 0] rfl) hr
        clear hr3
        refine lv_if_ne (tgt := 121) hx hb dX2_decideOutcomes_108 (by decide) (fun c1 => ?_) (fun c1 => ?_)
        · have hr := br_n c1 hr
          refine lv_aload hx hb dX2_decideOutcomes_121 (lv_at hl 3 rfl) ?_
          refine g7_3 hx hb hts hi7 hown hK hW (k := ((rid 50 1 (ix x3_3)) + 1)) (ks_3s (ks_50 (k := 1) rfl hn22)) (hts _ (wm 21 rfl)) dX2_decideOutcomes_123 ?_
          refine lv_aload_n hx hb dX2_decideOutcomes_126 rfl (lv_at hl 6 rfl) ?_
          refine g8_3 hx hb hts hi8 hown hK hW (k := 0) rfl (hts _ (wm 22 rfl)) dX2_decideOutcomes_127 ?_
          refine lv_iconst (v := (0 : Int32)) hx hb dX2_decideOutcomes_130 (by decide) ?_
          refine xiald hx hb hK hW (k := 13) (t := 21) rfl (by decide) (by decide) rfl (n := 5) (by decide) (jx := 0) (by decide) dX2_decideOutcomes_131 ?_
          refine lv_icmp_ge (tgt := 145) hx hb dX2_decideOutcomes_132 (by decide) (fun c1 => ?_) (fun c1 => ?_)
          · have hr := br_p c1 hr
            refine lv_iload hx hb dX2_decideOutcomes_145 (lv_at hl 0 rfl) ?_
            refine lv_iload_n hx hb dX2_decideOutcomes_147 rfl (lv_at hl 7 rfl) ?_
            refine lv_icmp_gt (tgt := 171) hx hb dX2_decideOutcomes_148 (by decide) (fun c1 => ?_) (fun c1 => ?_)
            · have hr := br_p c1 hr
              refine lv_aload_n hx hb dX2_decideOutcomes_171 rfl (lv_at hl 5 rfl) ?_
              refine g2_3 hx hb hts hi2 hown hK hW (k := 232) rfl (hts _ (wm 20 rfl)) dX2_decideOutcomes_172 ?_
              refine lv_iload_n hx hb dX2_decideOutcomes_175 rfl (lv_at hl 8 rfl) ?_
              refine lv_iconst (v := (2 : Int32)) hx hb dX2_decideOutcomes_176 (by decide) ?_
              obtain ⟨hn177, hr⟩ := chk_e hr
              obtain ⟨M_10, eM_10, hr⟩ := lt1_e hr
              refine xiast hx hb hK hW (k := 236) (t := 20) rfl (by decide) (by decide) rfl (n := 4) hn177 (jx := (ix x3_3)) rfl dX2_decideOutcomes_177 (fun H locs hW => ?_)
              rw [← eM_10] at hW
              refine lv_goto (tgt := 245) hx hb dX2_decideOutcomes_178 (by decide) ?_
              have e1 := Option.some.inj hr
              subst e1
              exact hj245_9 _ _ _ hW (lv_sub hl [5, 6, 7, 8] rfl)
            · have hr := br_n c1 hr
              refine lv_aload hx hb dX2_decideOutcomes_151 (lv_at hl 4 rfl) ?_
              refine lv_iload hx hb dX2_decideOutcomes_153 (lv_at hl 2 rfl) ?_
              obtain ⟨r_11, hc155, hr⟩ := ob1_e hr
              refine xk_i (va_runV (As := [.int x6_5]) (rest := []) ⟨hx, hb, hml, hown, hts⟩ (c_X3_isLateEnough l D cA ad M_8 (rid 50 1 (ix x3_3)) x6_5 (ks_50 (k := 1) rfl hn22) hc155) (cwV 1 hts gX2_decideOutcomes_X3_isLateEnough rfl rfl rfl (by decide +kernel) ⟨Nat.le_of_ble_eq_true rfl, Nat.le_of_ble_eq_true rfl⟩) (xpreV hK hW (k := (rid 50 1 (ix x3_3))) (ks_50 (k := 1) rfl hn22) (by decide) rfl) rfl rfl hl.1 rfl (lv_room (Nat.le_of_ble_eq_true rfl)) dX2_decideOutcomes_155 ⟨Nat.le_of_ble_eq_true rfl, Nat.le_of_ble_eq_true rfl⟩) hW (fun H locs hW => ?_)
              refine lv_if_eq (tgt := 171) hx hb dX2_decideOutcomes_158 (by decide) (fun c1 => ?_) (fun c1 => ?_)
              · have hr := br_p c1 hr
                refine lv_aload_n hx hb dX2_decideOutcomes_171 rfl (lv_at hl 5 rfl) ?_
                refine g2_3 hx hb hts hi2 hown hK hW (k := 232) rfl (hts _ (wm 20 rfl)) dX2_decideOutcomes_172 ?_
                refine lv_iload_n hx hb dX2_decideOutcomes_175 rfl (lv_at hl 8 rfl) ?_
                refine lv_iconst (v := (2 : Int32)) hx hb dX2_decideOutcomes_176 (by decide) ?_
                obtain ⟨hn177, hr⟩ := chk_e hr
                obtain ⟨M_12, eM_12, hr⟩ := lt1_e hr
                refine xiast hx hb hK hW (k := 236) (t := 20) rfl (by decide) (by decide) rfl (n := 4) hn177 (jx := (ix x3_3)) rfl dX2_decideOutcomes_177 (fun H locs hW => ?_)
                rw [← eM_12] at hW
                refine lv_goto (tgt := 245) hx hb dX2_decideOutcomes_178 (by decide) ?_
                have e1 := Option.some.inj hr
                subst e1
                exact hj245_9 _ _ _ hW (lv_sub hl [5, 6, 7, 8] rfl)
              · have hr := br_n c1 hr
                refine lv_aload hx hb dX2_decideOutcomes_161 (lv_at hl 4 rfl) ?_
                refine lv_iload hx hb dX2_decideOutcomes_163 (lv_at hl 1 rfl) ?_
                obtain ⟨r_13, hc165, hr⟩ := ob1_e hr
                refine xk_i (va_runV (As := [.int x7_6]) (rest := []) ⟨hx, hb, hml, hown, hts⟩ (c_X3_isLateEnough l D cA ad M_8 (rid 50 1 (ix x3_3)) x7_6 (ks_50 (k := 1) rfl hn22) hc165) (cwV 1 hts gX2_decideOutcomes_X3_isLateEnough rfl rfl rfl (by decide +kernel) ⟨Nat.le_of_ble_eq_true rfl, Nat.le_of_ble_eq_true rfl⟩) (xpreV hK hW (k := (rid 50 1 (ix x3_3))) (ks_50 (k := 1) rfl hn22) (by decide) rfl) rfl rfl hl.1 rfl (lv_room (Nat.le_of_ble_eq_true rfl)) dX2_decideOutcomes_165 ⟨Nat.le_of_ble_eq_true rfl, Nat.le_of_ble_eq_true rfl⟩) hW (fun H locs hW => ?_)
                refine lv_if_ne (tgt := 181) hx hb dX2_decideOutcomes_168 (by decide) (fun c1 => ?_) (fun c1 => ?_)
                · have hr := br_n c1 hr
                  refine lv_aload_n hx hb dX2_decideOutcomes_181 rfl (lv_at hl 5 rfl) ?_
                  refine g2_3 hx hb hts hi2 hown hK hW (k := 232) rfl (hts _ (wm 20 rfl)) dX2_decideOutcomes_182 ?_
                  refine lv_iload_n hx hb dX2_decideOutcomes_185 rfl (lv_at hl 8 rfl) ?_
                  refine lv_iload hx hb dX2_decideOutcomes_186 (lv_at hl 0 rfl) ?_
                  obtain ⟨y_14, hr, hr3⟩ := ob1_e hr
                  have hj196_14 : ∀ (H : Heap) (locs : List Loc) (ls : Array Slot), Xw D true cA ad M_8 (AX true ad) s.heap H locs → lv_has ls 9 [(8, .int x8_7), (7, .int x7_6), (6, .int x6_5), (4, .ref (ad (rid 50 1 (ix x3_3)))), (0, .ref (ad 232)), (1, .ref (ad 0)), (2, .int x2), (3, .int x3_3)] → W p l e (headSpec wsX2_decideOutcomes { frames := 2, cells := 0, slots := 0, locals := 51 }).room s m args below meth c H locs 0 0 (MQ below (QvX false D true cA ad M') args s 0 0 (AX true ad)) (F0 m 196 ls [.int y_14, .int x3_3, .ref (ad 236)]) := by
                    intro H locs ls hW hl
                    have hr := hr3
                    obtain ⟨hn196, hr⟩ := chk_e hr
                    obtain ⟨M_15, eM_15, hr⟩ := lt1_e hr
                    refine xiast hx hb hK hW (k := 236) (t := 20) rfl (by decide) (by decide) rfl (n := 4) hn196 (jx := (ix x3_3)) rfl dX2_decideOutcomes_196 (fun H locs hW => ?_)
                    rw [← eM_15] at hW
                    refine lv_aload_n hx hb dX2_decideOutcomes_197 rfl (lv_at hl 4 rfl) ?_
                    refine g2_4 hx hb hts hi2 hown hK hW (k := 232) rfl (hts _ (wm 17 rfl)) dX2_decideOutcomes_198 ?_
                    refine lv_iload_n hx hb dX2_decideOutcomes_201 rfl (lv_at hl 7 rfl) ?_
                    refine lv_aload hx hb dX2_decideOutcomes_202 (lv_at hl 3 rfl) ?_
                    refine lv_iload hx hb dX2_decideOutcomes_204 (lv_at hl 2 rfl) ?_
                    refine lv_iload hx hb dX2_decideOutcomes_206 (lv_at hl 1 rfl) ?_
                    obtain ⟨r_16, hc208, hr⟩ := ob1_e hr
                    refine xk_i (va_runV (As := [.int x6_5, .int x7_6]) (rest := [.int x3_3, .ref (ad 237)]) ⟨hx, hb, hml, hown, hts⟩ (c_X3_velocityFrom l D cA ad M_15 (rid 50 1 (ix x3_3)) x6_5 x7_6 (ks_50 (k := 1) rfl hn22) hc208) (cwV 2 hts gX2_decideOutcomes_X3_velocityFrom rfl rfl rfl (by decide +kernel) ⟨Nat.le_of_ble_eq_true rfl, Nat.le_of_ble_eq_true rfl⟩) (xpreV hK hW (k := (rid 50 1 (ix x3_3))) (ks_50 (k := 1) rfl hn22) (by decide) rfl) rfl rfl hl.1 rfl (lv_room (Nat.le_of_ble_eq_true rfl)) dX2_decideOutcomes_208 ⟨Nat.le_of_ble_eq_true rfl, Nat.le_of_ble_eq_true rfl⟩) hW (fun H locs hW => ?_)
                    obtain ⟨hn211, hr⟩ := chk_e hr
                    obtain ⟨M_17, eM_17, hr⟩ := lt1_e hr
                    refine xiast hx hb hK hW (k := 237) (t := 20) rfl (by decide) (by decide) rfl (n := 4) hn211 (jx := (ix x3_3)) rfl dX2_decideOutcomes_211 (fun H locs hW => ?_)
                    rw [← eM_17] at hW
                    refine lv_aload_n hx hb dX2_decideOutcomes_212 rfl (lv_at hl 4 rfl) ?_
                    refine lv_dup hx hb dX2_decideOutcomes_213 rfl ?_
                    refine g2_6 hx hb hts hi2 hown hK hW (k := 232) rfl (hts _ (wm 1 rfl)) dX2_decideOutcomes_214 ?_
                    refine lv_iconst (v := (1 : Int32)) hx hb dX2_decideOutcomes_217 (by decide) ?_
                    refine lv_iload_n hx hb dX2_decideOutcomes_218 rfl (lv_at hl 7 rfl) ?_
                    refine lv_ishl hx hb dX2_decideOutcomes_219 ?_
                    refine lv_ior hx hb dX2_decideOutcomes_220 ?_
                    obtain ⟨M_18, eM_18, hr⟩ := lt1_e hr
                    refine p2_6 hx hb hts hi2 hown hK hW (k := 232) rfl (hts _ (wm 1 rfl)) dX2_decideOutcomes_221 (fun H locs hW => ?_)
                    rw [← eM_18] at hW
                    refine lv_aload_n hx hb dX2_decideOutcomes_224 rfl (lv_at hl 4 rfl) ?_
                    refine lv_dup hx hb dX2_decideOutcomes_225 rfl ?_
                    refine g2_7 hx hb hts hi2 hown hK hW (k := 232) rfl (hts _ (wm 2 rfl)) dX2_decideOutcomes_226 ?_
                    refine lv_iload hx hb dX2_decideOutcomes_229 (lv_at hl 0 rfl) ?_
                    obtain ⟨y_19, hr, hr3⟩ := ob1_e hr
                    have hj241_19 : ∀ (H : Heap) (locs : List Loc) (ls : Array Slot), Xw D true cA ad M_18 (AX true ad) s.heap H locs → lv_has ls 9 [(0, .ref (ad 232)), (1, .ref (ad 0)), (2, .int x2), (3, .int x3_3)] → W p l e (headSpec wsX2_decideOutcomes { frames := 2, cells := 0, slots := 0, locals := 51 }).room s m args below meth c H locs 0 0 (MQ below (QvX false D true cA ad M') args s 0 0 (AX true ad)) (F0 m 241 ls [.int y_19, .int (gI M_18 232 7), .ref (ad 232)]) := by
                      intro H locs ls hW hl
                      have hr := hr3
                      refine lv_ior hx hb dX2_decideOutcomes_241 ?_
                      obtain ⟨M_20, eM_20, hr⟩ := lt1_e hr
                      refine p2_7 hx hb hts hi2 hown hK hW (k := 232) rfl (hts _ (wm 2 rfl)) dX2_decideOutcomes_242 (fun H locs hW => ?_)
                      rw [← eM_20] at hW
                      have e1 := Option.some.inj hr
                      subst e1
                      exact hj245_9 _ _ _ hW (lv_sub hl [0, 1, 2, 3] rfl)
                    clear hr3
                    refine lv_if_ne (tgt := 238) hx hb dX2_decideOutcomes_231 (by decide) (fun c1 => ?_) (fun c1 => ?_)
                    · have hr := br_n c1 hr
                      refine lv_iconst (v := (1 : Int32)) hx hb dX2_decideOutcomes_238 (by decide) ?_
                      refine lv_iload_n hx hb dX2_decideOutcomes_239 rfl (lv_at hl 7 rfl) ?_
                      refine lv_ishl hx hb dX2_decideOutcomes_240 ?_
                      have e1 := Option.some.inj hr
                      subst e1
                      exact hj241_19 _ _ _ hW (lv_sub hl [4, 5, 6, 7] rfl)
                    · have hr := br_p c1 hr
                      refine lv_iconst (v := (0 : Int32)) hx hb dX2_decideOutcomes_234 (by decide) ?_
                      refine lv_goto (tgt := 241) hx hb dX2_decideOutcomes_235 (by decide) ?_
                      have e1 := Option.some.inj hr
                      subst e1
                      exact hj241_19 _ _ _ hW (lv_sub hl [4, 5, 6, 7] rfl)
                  clear hr3
                  refine lv_if_ne (tgt := 195) hx hb dX2_decideOutcomes_188 (by decide) (fun c1 => ?_) (fun c1 => ?_)
                  · have hr := br_n c1 hr
                    refine lv_iconst (v := (3 : Int32)) hx hb dX2_decideOutcomes_195 (by decide) ?_
                    have e1 := Option.some.inj hr
                    subst e1
                    exact hj196_14 _ _ _ hW (lv_sub hl [0, 1, 2, 4, 5, 6, 7, 8] rfl)
                  · have hr := br_p c1 hr
                    refine lv_iconst (v := (4 : Int32)) hx hb dX2_decideOutcomes_191 (by decide) ?_
                    refine lv_goto (tgt := 196) hx hb dX2_decideOutcomes_192 (by decide) ?_
                    have e1 := Option.some.inj hr
                    subst e1
                    exact hj196_14 _ _ _ hW (lv_sub hl [0, 1, 2, 4, 5, 6, 7, 8] rfl)
                · have hr := br_p c1 hr
                  refine lv_aload_n hx hb dX2_decideOutcomes_171 rfl (lv_at hl 5 rfl) ?_
                  refine g2_3 hx hb hts hi2 hown hK hW (k := 232) rfl (hts _ (wm 20 rfl)) dX2_decideOutcomes_172 ?_
                  refine lv_iload_n hx hb dX2_decideOutcomes_175 rfl (lv_at hl 8 rfl) ?_
                  refine lv_iconst (v := (2 : Int32)) hx hb dX2_decideOutcomes_176 (by decide) ?_
                  obtain ⟨hn177, hr⟩ := chk_e hr
                  obtain ⟨M_21, eM_21, hr⟩ := lt1_e hr
                  refine xiast hx hb hK hW (k := 236) (t := 20) rfl (by decide) (by decide) rfl (n := 4) hn177 (jx := (ix x3_3)) rfl dX2_decideOutcomes_177 (fun H locs hW => ?_)
                  rw [← eM_21] at hW
                  refine lv_goto (tgt := 245) hx hb dX2_decideOutcomes_178 (by decide) ?_
                  have e1 := Option.some.inj hr
                  subst e1
                  exact hj245_9 _ _ _ hW (lv_sub hl [5, 6, 7, 8] rfl)
          · have hr := br_n c1 hr
            refine lv_aload_n hx hb dX2_decideOutcomes_135 rfl (lv_at hl 5 rfl) ?_
            refine g2_3 hx hb hts hi2 hown hK hW (k := 232) rfl (hts _ (wm 20 rfl)) dX2_decideOutcomes_136 ?_
            refine lv_iload_n hx hb dX2_decideOutcomes_139 rfl (lv_at hl 8 rfl) ?_
            refine lv_iconst (v := (1 : Int32)) hx hb dX2_decideOutcomes_140 (by decide) ?_
            obtain ⟨hn141, hr⟩ := chk_e hr
            obtain ⟨M_22, eM_22, hr⟩ := lt1_e hr
            refine xiast hx hb hK hW (k := 236) (t := 20) rfl (by decide) (by decide) rfl (n := 4) hn141 (jx := (ix x3_3)) rfl dX2_decideOutcomes_141 (fun H locs hW => ?_)
            rw [← eM_22] at hW
            refine lv_goto (tgt := 245) hx hb dX2_decideOutcomes_142 (by decide) ?_
            have e1 := Option.some.inj hr
            subst e1
            exact hj245_9 _ _ _ hW (lv_sub hl [5, 6, 7, 8] rfl)
        · have hr := br_p c1 hr
          refine lv_aload_n hx hb dX2_decideOutcomes_111 rfl (lv_at hl 5 rfl) ?_
          refine g2_3 hx hb hts hi2 hown hK hW (k := 232) rfl (hts _ (wm 20 rfl)) dX2_decideOutcomes_112 ?_
          refine lv_iload_n hx hb dX2_decideOutcomes_115 rfl (lv_at hl 8 rfl) ?_
          refine lv_iconst (v := (0 : Int32)) hx hb dX2_decideOutcomes_116 (by decide) ?_
          obtain ⟨hn117, hr⟩ := chk_e hr
          obtain ⟨M_23, eM_23, hr⟩ := lt1_e hr
          refine xiast hx hb hK hW (k := 236) (t := 20) rfl (by decide) (by decide) rfl (n := 4) hn117 (jx := (ix x3_3)) rfl dX2_decideOutcomes_117 (fun H locs hW => ?_)
          rw [← eM_23] at hW
          refine lv_goto (tgt := 245) hx hb dX2_decideOutcomes_118 (by decide) ?_
          have e1 := Option.some.inj hr
          subst e1
          exact hj245_9 _ _ _ hW (lv_sub hl [5, 6, 7, 8] rfl)
  exact hL12_1 1000 (0 : Int32) M_2 _ _ _ hW (lv_sub hl [1, 2, 3, 0] rfl) hr

set_option maxHeartbeats 4000000 in
set_option maxRecDepth 100000 in
theorem c_X10_contains (l : Launch) (D : va_G) (cA : Nat → ClassId) (ad : Nat → Nat) (M : Mm) (x0 : Int32) (x1 : Int32) {r : Int32} (hr : f_X10_contains x0 x1 M = some r) : Met l yX10_contains wsX10_contains ({ frames := 0, cells := 0, slots := 0, locals := 0 }) (PcX D true cA ad M [.int x0, .int x1]) (QiX false D true cA ad r M) 0 0 (AX true ad) := by
  refine Met.ofW (cc := cX10_contains) (maxL := 2) (ret := (some .boolean)) (by decide) rfl ?_
  intro p e s m args below meth c s₁ B hml hv
  obtain ⟨hav, hP0, hK⟩ := hv
  have hx := B.exec
  have hb := B.bytes
  have hr0 := B.returns
  have hts := atoms_spec (ws := wsX10_contains) B.pre
  have hown : s.vm.findClass RX10 = some m.cls := findClass_of_methodNamed B.named
  have hlocks := B.notSynchronized
  have hW := xstart hP0
  have hl := lv_entry ([.int x0, .int x1]) (n := 2) (Nat.le_of_ble_eq_true rfl)
  have hef := lg_entry_eq m ([.int x0, .int x1]) 2
  rw [← hav] at hef
  rw [hef]
  clear hef
  generalize (lg_sl ([.int x0, .int x1]) ++ List.replicate (2 - (lg_sl ([.int x0, .int x1])).length) Slot.unset).toArray = ls at hl ⊢
  have hl : lv_has ls 2 [(0, .int x0), (1, .int x1)] := hl
  clear hP0
  unfold f_X10_contains at hr
  refine lv_iload_n hx hb dX10_contains_0 rfl (lv_at hl 0 rfl) ?_
  refine lv_iload_n hx hb dX10_contains_1 rfl (lv_at hl 1 rfl) ?_
  refine lv_ishr hx hb dX10_contains_2 ?_
  refine lv_iconst (v := (1 : Int32)) hx hb dX10_contains_3 (by decide) ?_
  refine lv_iand hx hb dX10_contains_4 ?_
  refine lv_if_eq (tgt := 12) hx hb dX10_contains_5 (by decide) (fun c1 => ?_) (fun c1 => ?_)
  · have hr := br_p c1 hr
    refine lv_iconst (v := (0 : Int32)) hx hb dX10_contains_12 (by decide) ?_
    rw [← Option.some.inj hr]
    exact xzret hx hb hr0 hlocks hW adR_rf (by decide) dX10_contains_13
  · have hr := br_n c1 hr
    refine lv_iconst (v := (1 : Int32)) hx hb dX10_contains_8 (by decide) ?_
    refine lv_goto (tgt := 13) hx hb dX10_contains_9 (by decide) ?_
    rw [← Option.some.inj hr]
    exact xzret hx hb hr0 hlocks hW adR_rf (by decide) dX10_contains_13

set_option maxHeartbeats 4000000 in
set_option maxRecDepth 100000 in
theorem c_X2_weightedMean (l : Launch) (D : va_G) (cA : Nat → ClassId) (ad : Nat → Nat) (M : Mm) (x2 : Int32) {r : Int32} (hr : f_X2_weightedMean x2 M = some r) : Met l yX2_weightedMean wsX2_weightedMean ({ frames := 1, cells := 0, slots := 0, locals := 23 }) (PcX D true cA ad M [.ref (ad 232), .ref (ad 0), .int x2]) (QiX false D true cA ad r M) 0 0 (AX true ad) := by
  refine Met.ofW (cc := cX2_weightedMean) (maxL := 8) (ret := (some .int)) (by decide) rfl ?_
  intro p e s m args below meth c s₁ B hml hv
  obtain ⟨hav, hP0, hK⟩ := hv
  have hx := B.exec
  have hb := B.bytes
  have hr0 := B.returns
  have hts := atoms_spec (ws := wsX2_weightedMean) B.pre
  have hown : s.vm.findClass RX2 = some m.cls := findClass_of_methodNamed B.named
  have hlocks := B.notSynchronized
  have hW := xstart hP0
  have hi2 : ∀ w ∈ wsX20, w ∈ wsX2_weightedMean := fun w h => List.mem_cons_of_mem _ (List.mem_append_right _ h)
  have hi3 : ∀ w ∈ wsX30, w ∈ wsX2_weightedMean := fun w h => List.mem_cons_of_mem _ (List.mem_append_left _ (List.mem_append_right _ h))
  have hi8 : ∀ w ∈ wsX80, w ∈ wsX2_weightedMean := fun w h => List.mem_cons_of_mem _ (List.mem_append_left _ (List.mem_append_left _ (List.mem_append_right _ h)))
  have hl := lv_entry ([.ref (ad 232), .ref (ad 0), .int x2]) (n := 8) (Nat.le_of_ble_eq_true rfl)
  have hef := lg_entry_eq m ([.ref (ad 232), .ref (ad 0), .int x2]) 8
  rw [← hav] at hef
  rw [hef]
  clear hef
  generalize (lg_sl ([.ref (ad 232), .ref (ad 0), .int x2]) ++ List.replicate (8 - (lg_sl ([.ref (ad 232), .ref (ad 0), .int x2])).length) Slot.unset).toArray = ls at hl ⊢
  have hl : lv_has ls 8 [(0, .ref (ad 232)), (1, .ref (ad 0)), (2, .int x2)] := hl
  clear hP0
  unfold f_X2_weightedMean at hr
  refine lv_lconst (v := (0 : Int64)) hx hb dX2_weightedMean_0 (by decide) ?_
  refine lv_lstore_n (lv' := [(3, .long (0 : Int64)), (0, .ref (ad 232)), (1, .ref (ad 0)), (2, .int x2)]) hx hb dX2_weightedMean_1 rfl hl (by decide) rfl (fun ls hl => ?_)
  refine lv_lconst (v := (0 : Int64)) hx hb dX2_weightedMean_2 (by decide) ?_
  refine lv_lstore (lv' := [(5, .long (0 : Int64)), (3, .long (0 : Int64)), (0, .ref (ad 232)), (1, .ref (ad 0)), (2, .int x2)]) hx hb dX2_weightedMean_3 hl (by decide) rfl (fun ls hl => ?_)
  refine lv_iconst (v := (0 : Int32)) hx hb dX2_weightedMean_5 (by decide) ?_
  refine lv_istore (lv' := [(7, .int (0 : Int32)), (5, .long (0 : Int64)), (3, .long (0 : Int64)), (0, .ref (ad 232)), (1, .ref (ad 0)), (2, .int x2)]) hx hb dX2_weightedMean_6 hl (by decide) rfl (fun ls hl => ?_)
  have hL8_1 : ∀ (n : Nat) (x3_1 : Int64) (x5_2 : Int64) (x7_3 : Int32) (H : Heap) (locs : List Loc) (ls : Array Slot) (x3_4 : Int64) (x5_5 : Int64), Xw D true cA ad M (AX true ad) s.heap H locs → lv_has ls 8 [(0, .ref (ad 232)), (1, .ref (ad 0)), (2, .int x2), (3, .long x3_1), (5, .long x5_2), (7, .int x7_3)] → f_X2_weightedMean_L8 M x2 n x3_1 x5_2 x7_3 = some (x3_4, x5_5) → (∀ (H : Heap) (locs : List Loc) (ls : Array Slot), Xw D true cA ad M (AX true ad) s.heap H locs → lv_has ls 8 [(3, .long x3_4), (5, .long x5_5)] → W p l e (headSpec wsX2_weightedMean { frames := 1, cells := 0, slots := 0, locals := 23 }).room s m args below meth c H locs 0 0 (MQ below (QiX false D true cA ad r M) args s 0 0 (AX true ad)) (F0 m 68 ls [])) → W p l e (headSpec wsX2_weightedMean { frames := 1, cells := 0, slots := 0, locals := 23 }).room s m args below meth c H locs 0 0 (MQ below (QiX false D true cA ad r M) args s 0 0 (AX true ad)) (F0 m 8 ls []) := by
    intro n
    induction n with
    | zero =>
      intro x3_1 x5_2 x7_3 H locs ls x3_4 x5_5 hW hl hr hk
      exact absurd hr (by simp [f_X2_weightedMean_L8])
    | succ n ih =>
      intro x3_1 x5_2 x7_3 H locs ls x3_4 x5_5 hW hl hr hk
      rw [f_X2_weightedMean_L8] at hr
      refine lv_iload hx hb dX2_weightedMean_8 (lv_at hl 5 rfl) ?_
      refine lv_iconst (v := (4 : Int32)) hx hb dX2_weightedMean_10 (by decide) ?_
      refine lv_icmp_ge (tgt := 68) hx hb dX2_weightedMean_11 (by decide) (fun c1 => ?_) (fun c1 => ?_)
      · have hr := br_p c1 hr
        obtain ⟨e1, e2⟩ := Prod.mk.inj (Option.some.inj hr)
        subst e1
        subst e2
        exact hk _ _ _ hW (lv_sub hl [3, 4] rfl)
      · have hr := br_n c1 hr
        refine lv_iload_n hx hb dX2_weightedMean_14 rfl (lv_at hl 2 rfl) ?_
        refine lv_iload hx hb dX2_weightedMean_15 (lv_at hl 5 rfl) ?_
        obtain ⟨r_6, hc17, hr⟩ := ob1_e hr
        refine xk_i (va_runSN (As := [.int x2, .int x7_3]) (rest := []) ⟨hx, hb, hml, hown, hts⟩ (c_X10_contains l D cA ad M x2 x7_3 hc17) ⟨va_cnB 2 hts gX2_weightedMean_X10_contains_n154 rfl rfl rfl hK.2.2.2.2.2.2.2.2.2.2.2.2.2.1 (hts _ (wm 5 rfl)) (by decide +kernel) ⟨Nat.le_of_ble_eq_true rfl, Nat.le_of_ble_eq_true rfl⟩, (hts _ (wm 4 rfl)), trivial⟩ (xpreS hK hW) rfl rfl hl.1 rfl (lv_room (Nat.le_of_ble_eq_true rfl)) dX2_weightedMean_17 ⟨Nat.le_of_ble_eq_true rfl, Nat.le_of_ble_eq_true rfl⟩) hW (fun H locs hW => ?_)
        obtain ⟨x3_7, x5_8, hr, hr3⟩ := ob2_e hr
        have hj62_8 : ∀ (H : Heap) (locs : List Loc) (ls : Array Slot), Xw D true cA ad M (AX true ad) s.heap H locs → lv_has ls 8 [(0, .ref (ad 232)), (1, .ref (ad 0)), (2, .int x2), (7, .int x7_3), (3, .long x3_7), (5, .long x5_8)] → W p l e (headSpec wsX2_weightedMean { frames := 1, cells := 0, slots := 0, locals := 23 }).room s m args below meth c H locs 0 0 (MQ below (QiX false D true cA ad r M) args s 0 0 (AX true ad)) (F0 m 62 ls []) := by
          intro H locs ls hW hl
          have hr := hr3
          obtain ⟨x7_11, ex7_11, hr⟩ := lt1_e hr
          refine lv_iinc (v := x7_11) (lv' := [(7, .int x7_11), (0, .ref (ad 232)), (1, .ref (ad 0)), (2, .int x2), (3, .long x3_7), (5, .long x5_8)]) hx hb dX2_weightedMean_62 hl (k := 3) rfl (by rw [ex7_11]; rfl) (by decide) rfl (fun ls hl => ?_)
          refine lv_goto (tgt := 8) hx hb dX2_weightedMean_65 (by decide) ?_
          exact ih x3_7 x5_8 x7_11 _ _ _ _ _ hW (lv_sub hl [1, 2, 3, 4, 5, 0] rfl) hr hk
        clear hr3
        refine lv_if_eq (tgt := 62) hx hb dX2_weightedMean_20 (by decide) (fun c1 => ?_) (fun c1 => ?_)
        · have hr := br_p c1 hr
          obtain ⟨e1, e2⟩ := Prod.mk.inj (Option.some.inj hr)
          subst e1
          subst e2
          exact hj62_8 _ _ _ hW (lv_sub hl [0, 1, 2, 5, 3, 4] rfl)
        · have hr := br_n c1 hr
          refine lv_lload_n hx hb dX2_weightedMean_23 rfl (lv_at hl 3 rfl) ?_
          refine lv_aload_n hx hb dX2_weightedMean_24 rfl (lv_at hl 1 rfl) ?_
          refine g8_0 hx hb hts hi8 hown hK hW (k := 0) rfl (hts _ (wm 1 rfl)) dX2_weightedMean_25 ?_
          refine lv_iload hx hb dX2_weightedMean_28 (lv_at hl 5 rfl) ?_
          obtain ⟨hn30, hr⟩ := chk_e hr
          refine xaald hx hb hK hW (k := 1) (t := 50) rfl (by decide) (by decide) rfl (t0 := 3) rfl hn30 dX2_weightedMean_30 ?_
          refine g3_2 hx hb hts hi3 hown hK hW (k := (rid 50 1 (ix x7_3))) (ks_50 (k := 1) rfl hn30) (hts _ (wm 2 rfl)) dX2_weightedMean_31 ?_
          refine lv_i2l hx hb dX2_weightedMean_34 rfl ?_
          refine lv_aload_n hx hb dX2_weightedMean_35 rfl (lv_at hl 0 rfl) ?_
          refine g2_4 hx hb hts hi2 hown hK hW (k := 232) rfl (hts _ (wm 3 rfl)) dX2_weightedMean_36 ?_
          refine lv_iload hx hb dX2_weightedMean_39 (lv_at hl 5 rfl) ?_
          obtain ⟨hn41, hr⟩ := chk_e hr
          refine xiald hx hb hK hW (k := 237) (t := 20) rfl (by decide) (by decide) rfl (n := 4) hn41 (jx := (ix x7_3)) rfl dX2_weightedMean_41 ?_
          refine lv_i2l hx hb dX2_weightedMean_42 rfl ?_
          refine lv_lmul hx hb dX2_weightedMean_43 ?_
          refine lv_ladd hx hb dX2_weightedMean_44 ?_
          obtain ⟨x3_9, ex3_9, hr⟩ := lt1_e hr
          rw [← ex3_9]
          refine lv_lstore_n (lv' := [(3, .long x3_9), (0, .ref (ad 232)), (1, .ref (ad 0)), (2, .int x2), (5, .long x5_2), (7, .int x7_3)]) hx hb dX2_weightedMean_45 rfl hl (by decide) rfl (fun ls hl => ?_)
          refine lv_lload hx hb dX2_weightedMean_46 (lv_at hl 4 rfl) ?_
          refine lv_aload_n hx hb dX2_weightedMean_48 rfl (lv_at hl 2 rfl) ?_
          refine g8_0 hx hb hts hi8 hown hK hW (k := 0) rfl (hts _ (wm 1 rfl)) dX2_weightedMean_49 ?_
          refine lv_iload hx hb dX2_weightedMean_52 (lv_at hl 5 rfl) ?_
          obtain ⟨hn54, hr⟩ := chk_e hr
          refine xaald hx hb hK hW (k := 1) (t := 50) rfl (by decide) (by decide) rfl (t0 := 3) rfl hn54 dX2_weightedMean_54 ?_
          refine g3_2 hx hb hts hi3 hown hK hW (k := (rid 50 1 (ix x7_3))) (ks_50 (k := 1) rfl hn54) (hts _ (wm 2 rfl)) dX2_weightedMean_55 ?_
          refine lv_i2l hx hb dX2_weightedMean_58 rfl ?_
          refine lv_ladd hx hb dX2_weightedMean_59 ?_
          obtain ⟨x5_10, ex5_10, hr⟩ := lt1_e hr
          rw [← ex5_10]
          refine lv_lstore (lv' := [(5, .long x5_10), (3, .long x3_9), (0, .ref (ad 232)), (1, .ref (ad 0)), (2, .int x2), (7, .int x7_3)]) hx hb dX2_weightedMean_60 hl (by decide) rfl (fun ls hl => ?_)
          obtain ⟨e1, e2⟩ := Prod.mk.inj (Option.some.inj hr)
          subst e1
          subst e2
          exact hj62_8 _ _ _ hW (lv_sub hl [2, 3, 4, 5, 1, 0] rfl)
  obtain ⟨x3_4, x5_5, hr, hr3⟩ := ob2_e hr
  refine hL8_1 1000 (0 : Int64) (0 : Int64) (0 : Int32) _ _ _ x3_4 x5_5 hW (lv_sub hl [3, 4, 5, 2, 1, 0] rfl) hr (fun H locs ls hW hl => ?_)
  clear hr
  have hr := hr3
  refine lv_lload_n hx hb dX2_weightedMean_68 rfl (lv_at hl 0 rfl) ?_
  refine lv_lload hx hb dX2_weightedMean_69 (lv_at hl 1 rfl) ?_
  obtain ⟨r_12, hc71, hr⟩ := ob1_e hr
  refine xk_l (va_runSN (As := [.long x3_4, .long x5_5]) (rest := []) ⟨hx, hb, hml, hown, hts⟩ (c_X10_quotient l D cA ad M x3_4 x5_5 hc71) ⟨va_cnB 2 hts gX2_weightedMean_X10_quotient_n164 rfl rfl rfl hK.2.2.2.2.2.2.2.2.2.2.2.2.2.2.1 (hts _ (wm 5 rfl)) (by decide +kernel) ⟨Nat.le_of_ble_eq_true rfl, Nat.le_of_ble_eq_true rfl⟩, (hts _ (wm 7 rfl)), trivial⟩ (xpreS hK hW) rfl rfl hl.1 rfl (lv_room (Nat.le_of_ble_eq_true rfl)) dX2_weightedMean_71 ⟨Nat.le_of_ble_eq_true rfl, Nat.le_of_ble_eq_true rfl⟩) hW (fun H locs hW => ?_)
  refine lv_l2i hx hb dX2_weightedMean_74 rfl ?_
  rw [← Option.some.inj hr]
  exact xiret hx hb hr0 hlocks hW adR_rf dX2_weightedMean_75

set_option maxHeartbeats 4000000 in
set_option maxRecDepth 100000 in
theorem c_X2_substituteFrom (l : Launch) (D : va_G) (cA : Nat → ClassId) (ad : Nat → Nat) (M : Mm) (x2 : Int32) {M' : Mm} (hr : f_X2_substituteFrom x2 M = some M') : Met l yX2_substituteFrom wsX2_substituteFrom ({ frames := 1, cells := 0, slots := 0, locals := 21 }) (PcX D true cA ad M [.ref (ad 232), .ref (ad 0), .int x2]) (QvX false D true cA ad M') 0 0 (AX true ad) := by
  refine Met.ofW (cc := cX2_substituteFrom) (maxL := 5) (ret := none) (by decide) rfl ?_
  intro p e s m args below meth c s₁ B hml hv
  obtain ⟨hav, hP0, hK⟩ := hv
  have hx := B.exec
  have hb := B.bytes
  have hr0 := B.returns
  have hts := atoms_spec (ws := wsX2_substituteFrom) B.pre
  have hown : s.vm.findClass RX2 = some m.cls := findClass_of_methodNamed B.named
  have hlocks := B.notSynchronized
  have hW := xstart hP0
  have hi2 : ∀ w ∈ wsX20, w ∈ wsX2_substituteFrom := fun w h => List.mem_cons_of_mem _ (List.mem_append_left _ (List.mem_append_right _ h))
  have hi3 : ∀ w ∈ wsX30, w ∈ wsX2_substituteFrom := fun w h => List.mem_cons_of_mem _ (List.mem_append_right _ h)
  have hi8 : ∀ w ∈ wsX80, w ∈ wsX2_substituteFrom := fun w h => List.mem_cons_of_mem _ (List.mem_append_left _ (List.mem_append_left _ (List.mem_append_right _ h)))
  have hl := lv_entry ([.ref (ad 232), .ref (ad 0), .int x2]) (n := 5) (Nat.le_of_ble_eq_true rfl)
  have hef := lg_entry_eq m ([.ref (ad 232), .ref (ad 0), .int x2]) 5
  rw [← hav] at hef
  rw [hef]
  clear hef
  generalize (lg_sl ([.ref (ad 232), .ref (ad 0), .int x2]) ++ List.replicate (5 - (lg_sl ([.ref (ad 232), .ref (ad 0), .int x2])).length) Slot.unset).toArray = ls at hl ⊢
  have hl : lv_has ls 5 [(0, .ref (ad 232)), (1, .ref (ad 0)), (2, .int x2)] := hl
  clear hP0
  unfold f_X2_substituteFrom at hr
  refine lv_iconst (v := (0 : Int32)) hx hb dX2_substituteFrom_0 (by decide) ?_
  refine lv_istore_n (lv' := [(3, .int (0 : Int32)), (0, .ref (ad 232)), (1, .ref (ad 0)), (2, .int x2)]) hx hb dX2_substituteFrom_1 rfl hl (by decide) rfl (fun ls hl => ?_)
  have hL2_1 : ∀ (n : Nat) (x3_1 : Int32) (M_2 : Mm) (H : Heap) (locs : List Loc) (ls : Array Slot), Xw D true cA ad M_2 (AX true ad) s.heap H locs → lv_has ls 5 [(0, .ref (ad 232)), (1, .ref (ad 0)), (2, .int x2), (3, .int x3_1)] → f_X2_substituteFrom_L2 x2 n x3_1 M_2 = some M' → W p l e (headSpec wsX2_substituteFrom { frames := 1, cells := 0, slots := 0, locals := 21 }).room s m args below meth c H locs 0 0 (MQ below (QvX false D true cA ad M') args s 0 0 (AX true ad)) (F0 m 2 ls []) := by
    intro n
    induction n with
    | zero =>
      intro x3_1 M_2 H locs ls hW hl hr
      exact absurd hr (by simp [f_X2_substituteFrom_L2])
    | succ n ih =>
      intro x3_1 M_2 H locs ls hW hl hr
      rw [f_X2_substituteFrom_L2] at hr
      refine lv_iload_n hx hb dX2_substituteFrom_2 rfl (lv_at hl 3 rfl) ?_
      refine lv_iconst (v := (4 : Int32)) hx hb dX2_substituteFrom_3 (by decide) ?_
      refine lv_icmp_ge (tgt := 72) hx hb dX2_substituteFrom_4 (by decide) (fun c1 => ?_) (fun c1 => ?_)
      · have hr := br_p c1 hr
        rw [← Option.some.inj hr]
        exact xvret hx hb hr0 hlocks hW adR_rf dX2_substituteFrom_72
      · have hr := br_n c1 hr
        refine lv_aload_n hx hb dX2_substituteFrom_7 rfl (lv_at hl 1 rfl) ?_
        refine g8_0 hx hb hts hi8 hown hK hW (k := 0) rfl (hts _ (wm 1 rfl)) dX2_substituteFrom_8 ?_
        refine lv_iload_n hx hb dX2_substituteFrom_11 rfl (lv_at hl 3 rfl) ?_
        obtain ⟨hn12, hr⟩ := chk_e hr
        refine xaald hx hb hK hW (k := 1) (t := 50) rfl (by decide) (by decide) rfl (t0 := 3) rfl hn12 dX2_substituteFrom_12 ?_
        refine lv_astore (lv' := [(4, .ref (ad (rid 50 1 (ix x3_1)))), (0, .ref (ad 232)), (1, .ref (ad 0)), (2, .int x2), (3, .int x3_1)]) hx hb dX2_substituteFrom_13 hl (by decide) rfl (fun ls hl => ?_)
        refine lv_aload_n hx hb dX2_substituteFrom_15 rfl (lv_at hl 1 rfl) ?_
        refine g2_6 hx hb hts hi2 hown hK hW (k := 232) rfl (hts _ (wm 2 rfl)) dX2_substituteFrom_16 ?_
        refine lv_iload_n hx hb dX2_substituteFrom_19 rfl (lv_at hl 4 rfl) ?_
        obtain ⟨r_3, hc20, hr⟩ := ob1_e hr
        refine xk_i (va_runSN (As := [.int (gI M_2 232 6), .int x3_1]) (rest := []) ⟨hx, hb, hml, hown, hts⟩ (c_X10_contains l D cA ad M_2 (gI M_2 232 6) x3_1 hc20) ⟨va_cnB 2 hts gX2_substituteFrom_X10_contains_n154 rfl rfl rfl hK.2.2.2.2.2.2.2.2.2.2.2.2.2.1 (hts _ (wm 9 rfl)) (by decide +kernel) ⟨Nat.le_of_ble_eq_true rfl, Nat.le_of_ble_eq_true rfl⟩, (hts _ (wm 8 rfl)), trivial⟩ (xpreS hK hW) rfl rfl hl.1 rfl (lv_room (Nat.le_of_ble_eq_true rfl)) dX2_substituteFrom_20 ⟨Nat.le_of_ble_eq_true rfl, Nat.le_of_ble_eq_true rfl⟩) hW (fun H locs hW => ?_)
        obtain ⟨M_4, hr, hr3⟩ := ob1_e hr
        have hj66_4 : ∀ (H : Heap) (locs : List Loc) (ls : Array Slot), Xw D true cA ad M_4 (AX true ad) s.heap H locs → lv_has ls 5 [(0, .ref (ad 232)), (1, .ref (ad 0)), (2, .int x2), (3, .int x3_1)] → W p l e (headSpec wsX2_substituteFrom { frames := 1, cells := 0, slots := 0, locals := 21 }).room s m args below meth c H locs 0 0 (MQ below (QvX false D true cA ad M') args s 0 0 (AX true ad)) (F0 m 66 ls []) := by
          intro H locs ls hW hl
          have hr := hr3
          obtain ⟨x3_7, ex3_7, hr⟩ := lt1_e hr
          refine lv_iinc (v := x3_7) (lv' := [(3, .int x3_7), (0, .ref (ad 232)), (1, .ref (ad 0)), (2, .int x2)]) hx hb dX2_substituteFrom_66 hl (k := 3) rfl (by rw [ex3_7]; rfl) (by decide) rfl (fun ls hl => ?_)
          refine lv_goto (tgt := 2) hx hb dX2_substituteFrom_69 (by decide) ?_
          exact ih x3_7 M_4 _ _ _ hW (lv_sub hl [1, 2, 3, 0] rfl) hr
        clear hr3
        refine lv_if_ne (tgt := 66) hx hb dX2_substituteFrom_23 (by decide) (fun c1 => ?_) (fun c1 => ?_)
        · have hr := br_n c1 hr
          have e1 := Option.some.inj hr
          subst e1
          exact hj66_4 _ _ _ hW (lv_sub hl [1, 2, 3, 4] rfl)
        · have hr := br_p c1 hr
          refine lv_aload hx hb dX2_substituteFrom_26 (lv_at hl 0 rfl) ?_
          refine g3_8 hx hb hts hi3 hown hK hW (k := (rid 50 1 (ix x3_1))) (ks_50 (k := 1) rfl hn12) (hts _ (wm 3 rfl)) dX2_substituteFrom_28 ?_
          refine lv_if_eq (tgt := 66) hx hb dX2_substituteFrom_31 (by decide) (fun c1 => ?_) (fun c1 => ?_)
          · have hr := br_p c1 hr
            have e1 := Option.some.inj hr
            subst e1
            exact hj66_4 _ _ _ hW (lv_sub hl [1, 2, 3, 4] rfl)
          · have hr := br_n c1 hr
            refine lv_aload_n hx hb dX2_substituteFrom_34 rfl (lv_at hl 1 rfl) ?_
            refine g2_4 hx hb hts hi2 hown hK hW (k := 232) rfl (hts _ (wm 4 rfl)) dX2_substituteFrom_35 ?_
            refine lv_iload_n hx hb dX2_substituteFrom_38 rfl (lv_at hl 4 rfl) ?_
            refine lv_iload_n hx hb dX2_substituteFrom_39 rfl (lv_at hl 3 rfl) ?_
            refine lv_i2l hx hb dX2_substituteFrom_40 rfl ?_
            refine lv_aload hx hb dX2_substituteFrom_41 (lv_at hl 0 rfl) ?_
            refine g3_9 hx hb hts hi3 hown hK hW (k := (rid 50 1 (ix x3_1))) (ks_50 (k := 1) rfl hn12) (hts _ (wm 5 rfl)) dX2_substituteFrom_43 ?_
            refine lv_i2l hx hb dX2_substituteFrom_46 rfl ?_
            refine lv_lmul hx hb dX2_substituteFrom_47 ?_
            refine lv_ldc2 (v := (1000 : Int64)) hx hb hown (hts _ (wm 6 rfl)) dX2_substituteFrom_48 ?_
            refine lv_ldiv hx hb dX2_substituteFrom_51 (by decide) ?_
            refine lv_l2i hx hb dX2_substituteFrom_52 rfl ?_
            obtain ⟨hn53, hr⟩ := chk_e hr
            obtain ⟨M_5, eM_5, hr⟩ := lt1_e hr
            refine xiast hx hb hK hW (k := 237) (t := 20) rfl (by decide) (by decide) rfl (n := 4) hn53 (jx := (ix x3_1)) rfl dX2_substituteFrom_53 (fun H locs hW => ?_)
            rw [← eM_5] at hW
            refine lv_aload_n hx hb dX2_substituteFrom_54 rfl (lv_at hl 1 rfl) ?_
            refine lv_dup hx hb dX2_substituteFrom_55 rfl ?_
            refine g2_8 hx hb hts hi2 hown hK hW (k := 232) rfl (hts _ (wm 7 rfl)) dX2_substituteFrom_56 ?_
            refine lv_iconst (v := (1 : Int32)) hx hb dX2_substituteFrom_59 (by decide) ?_
            refine lv_iload_n hx hb dX2_substituteFrom_60 rfl (lv_at hl 4 rfl) ?_
            refine lv_ishl hx hb dX2_substituteFrom_61 ?_
            refine lv_ior hx hb dX2_substituteFrom_62 ?_
            obtain ⟨M_6, eM_6, hr⟩ := lt1_e hr
            refine p2_8 hx hb hts hi2 hown hK hW (k := 232) rfl (hts _ (wm 7 rfl)) dX2_substituteFrom_63 (fun H locs hW => ?_)
            rw [← eM_6] at hW
            have e1 := Option.some.inj hr
            subst e1
            exact hj66_4 _ _ _ hW (lv_sub hl [1, 2, 3, 4] rfl)
  exact hL2_1 1000 (0 : Int32) M _ _ _ hW (lv_sub hl [1, 2, 3, 0] rfl) hr

set_option maxHeartbeats 4000000 in
set_option maxRecDepth 100000 in
theorem c_X4_factorFor (l : Launch) (D : va_G) (cA : Nat → ClassId) (ad : Nat → Nat) (M : Mm) (x1 : Int32) {r : Int32} (hr : f_X4_factorFor x1 M = some r) : Met l yX4_factorFor wsX4_factorFor ({ frames := 1, cells := 0, slots := 0, locals := 30 }) (PcX D true cA ad M [.ref (ad 10), .int x1]) (QiX false D true cA ad r M) 0 0 (AX true ad) := by
  refine Met.ofW (cc := cX4_factorFor) (maxL := 9) (ret := (some .int)) (by decide) rfl ?_
  intro p e s m args below meth c s₁ B hml hv
  obtain ⟨hav, hP0, hK⟩ := hv
  have hx := B.exec
  have hb := B.bytes
  have hr0 := B.returns
  have hts := atoms_spec (ws := wsX4_factorFor) B.pre
  have hown : s.vm.findClass RX4 = some m.cls := findClass_of_methodNamed B.named
  have hlocks := B.notSynchronized
  have hW := xstart hP0
  have hi4 : ∀ w ∈ wsX40, w ∈ wsX4_factorFor := fun w h => List.mem_cons_of_mem _ (List.mem_append_right _ h)
  have hl := lv_entry ([.ref (ad 10), .int x1]) (n := 9) (Nat.le_of_ble_eq_true rfl)
  have hef := lg_entry_eq m ([.ref (ad 10), .int x1]) 9
  rw [← hav] at hef
  rw [hef]
  clear hef
  generalize (lg_sl ([.ref (ad 10), .int x1]) ++ List.replicate (9 - (lg_sl ([.ref (ad 10), .int x1])).length) Slot.unset).toArray = ls at hl ⊢
  have hl : lv_has ls 9 [(0, .ref (ad 10)), (1, .int x1)] := hl
  clear hP0
  unfold f_X4_factorFor at hr
  refine lv_iload_n hx hb dX4_factorFor_0 rfl (lv_at hl 1 rfl) ?_
  refine va_mabs hx hb (hml.trans hl.1.symm) hown (hts _ (wm 1 rfl)) (hts _ (wm 2 rfl)) (hts _ (wm 3 rfl)) (hts _ (wm 4 rfl)) (Nat.le_of_ble_eq_true rfl) (Nat.le_of_ble_eq_true rfl) (Nat.zero_le _) (Nat.zero_le _) dX4_factorFor_1 (show W p l e _ s m _ below meth c _ _ _ _ _ (F0 m _ _ (Value.int (jabs x1) :: _)) from ?_)
  obtain ⟨x2_1, ex2_1, hr⟩ := lt1_e hr
  rw [← ex2_1]
  refine lv_istore_n (lv' := [(2, .int x2_1), (0, .ref (ad 10)), (1, .int x1)]) hx hb dX4_factorFor_4 rfl hl (by decide) rfl (fun ls hl => ?_)
  refine lv_iconst (v := (0 : Int32)) hx hb dX4_factorFor_5 (by decide) ?_
  refine lv_istore_n (lv' := [(3, .int (0 : Int32)), (2, .int x2_1), (0, .ref (ad 10)), (1, .int x1)]) hx hb dX4_factorFor_6 rfl hl (by decide) rfl (fun ls hl => ?_)
  have hL7_1 : ∀ (n : Nat) (x3_2 : Int32) (H : Heap) (locs : List Loc) (ls : Array Slot) (x3_3 : Int32), Xw D true cA ad M (AX true ad) s.heap H locs → lv_has ls 9 [(2, .int x2_1), (0, .ref (ad 10)), (3, .int x3_2)] → f_X4_factorFor_L7 M x2_1 n x3_2 = some x3_3 → (∀ (H : Heap) (locs : List Loc) (ls : Array Slot), Xw D true cA ad M (AX true ad) s.heap H locs → lv_has ls 9 [(2, .int x2_1), (0, .ref (ad 10)), (3, .int x3_3)] → W p l e (headSpec wsX4_factorFor { frames := 1, cells := 0, slots := 0, locals := 30 }).room s m args below meth c H locs 0 0 (MQ below (QiX false D true cA ad r M) args s 0 0 (AX true ad)) (F0 m 37 ls [])) → W p l e (headSpec wsX4_factorFor { frames := 1, cells := 0, slots := 0, locals := 30 }).room s m args below meth c H locs 0 0 (MQ below (QiX false D true cA ad r M) args s 0 0 (AX true ad)) (F0 m 7 ls []) := by
    intro n
    induction n with
    | zero =>
      intro x3_2 H locs ls x3_3 hW hl hr hk
      exact absurd hr (by simp [f_X4_factorFor_L7])
    | succ n ih =>
      intro x3_2 H locs ls x3_3 hW hl hr hk
      rw [f_X4_factorFor_L7] at hr
      refine lv_iload_n hx hb dX4_factorFor_7 rfl (lv_at hl 2 rfl) ?_
      refine lv_bipush (v := (6 : Int32)) hx hb dX4_factorFor_8 (by decide) ?_
      refine lv_icmp_ge (tgt := 37) hx hb dX4_factorFor_10 (by decide) (fun c1 => ?_) (fun c1 => ?_)
      · have hr := br_p c1 hr
        have e1 := Option.some.inj hr
        subst e1
        exact hk _ _ _ hW (lv_sub hl [0, 1, 2] rfl)
      · have hr := br_n c1 hr
        refine lv_iload_n hx hb dX4_factorFor_13 rfl (lv_at hl 2 rfl) ?_
        refine lv_aload_n hx hb dX4_factorFor_14 rfl (lv_at hl 1 rfl) ?_
        refine g4_2 hx hb hts hi4 hown hK hW (k := 10) rfl (hts _ (wm 5 rfl)) dX4_factorFor_15 ?_
        refine lv_icmp_ge (tgt := 37) hx hb dX4_factorFor_18 (by decide) (fun c1 => ?_) (fun c1 => ?_)
        · have hr := br_p c1 hr
          have e1 := Option.some.inj hr
          subst e1
          exact hk _ _ _ hW (lv_sub hl [0, 1, 2] rfl)
        · have hr := br_n c1 hr
          refine lv_aload_n hx hb dX4_factorFor_21 rfl (lv_at hl 1 rfl) ?_
          refine g4_0 hx hb hts hi4 hown hK hW (k := 10) rfl (hts _ (wm 6 rfl)) dX4_factorFor_22 ?_
          refine lv_iload_n hx hb dX4_factorFor_25 rfl (lv_at hl 2 rfl) ?_
          obtain ⟨hn26, hr⟩ := chk_e hr
          refine xiald hx hb hK hW (k := 11) (t := 22) rfl (by decide) (by decide) rfl (n := 6) hn26 (jx := (ix x3_2)) rfl dX4_factorFor_26 ?_
          refine lv_iload_n hx hb dX4_factorFor_27 rfl (lv_at hl 0 rfl) ?_
          refine lv_icmp_ge (tgt := 37) hx hb dX4_factorFor_28 (by decide) (fun c1 => ?_) (fun c1 => ?_)
          · have hr := br_p c1 hr
            have e1 := Option.some.inj hr
            subst e1
            exact hk _ _ _ hW (lv_sub hl [0, 1, 2] rfl)
          · have hr := br_n c1 hr
            obtain ⟨x3_4, ex3_4, hr⟩ := lt1_e hr
            refine lv_iinc (v := x3_4) (lv' := [(3, .int x3_4), (2, .int x2_1), (0, .ref (ad 10))]) hx hb dX4_factorFor_31 hl (k := 2) rfl (by rw [ex3_4]; rfl) (by decide) rfl (fun ls hl => ?_)
            refine lv_goto (tgt := 7) hx hb dX4_factorFor_34 (by decide) ?_
            exact ih x3_4 _ _ _ _ hW (lv_sub hl [1, 2, 0] rfl) hr hk
  obtain ⟨x3_3, hr, hr3⟩ := ob1_e hr
  refine hL7_1 1000 (0 : Int32) _ _ _ x3_3 hW (lv_sub hl [1, 2, 0] rfl) hr (fun H locs ls hW hl => ?_)
  clear hr
  have hr := hr3
  refine lv_aload_n hx hb dX4_factorFor_37 rfl (lv_at hl 1 rfl) ?_
  refine g4_2 hx hb hts hi4 hown hK hW (k := 10) rfl (hts _ (wm 5 rfl)) dX4_factorFor_38 ?_
  refine lv_if_ne (tgt := 48) hx hb dX4_factorFor_41 (by decide) (fun c1 => ?_) (fun c1 => ?_)
  · have hr := br_n c1 hr
    refine lv_iload_n hx hb dX4_factorFor_48 rfl (lv_at hl 2 rfl) ?_
    refine lv_if_ne (tgt := 59) hx hb dX4_factorFor_49 (by decide) (fun c1 => ?_) (fun c1 => ?_)
    · have hr := br_n c1 hr
      refine lv_iload_n hx hb dX4_factorFor_59 rfl (lv_at hl 2 rfl) ?_
      refine lv_iconst (v := (1 : Int32)) hx hb dX4_factorFor_60 (by decide) ?_
      refine lv_isub hx hb dX4_factorFor_61 ?_
      obtain ⟨x4_5, ex4_5, hr⟩ := lt1_e hr
      rw [← ex4_5]
      refine lv_istore (lv' := [(4, .int x4_5), (2, .int x2_1), (0, .ref (ad 10)), (3, .int x3_3)]) hx hb dX4_factorFor_62 hl (by decide) rfl (fun ls hl => ?_)
      refine lv_iload_n hx hb dX4_factorFor_64 rfl (lv_at hl 3 rfl) ?_
      refine lv_bipush (v := (6 : Int32)) hx hb dX4_factorFor_65 (by decide) ?_
      refine lv_icmp_ge (tgt := 78) hx hb dX4_factorFor_67 (by decide) (fun c1 => ?_) (fun c1 => ?_)
      · have hr := br_p c1 hr
        refine lv_aload_n hx hb dX4_factorFor_78 rfl (lv_at hl 2 rfl) ?_
        refine g4_1 hx hb hts hi4 hown hK hW (k := 10) rfl (hts _ (wm 7 rfl)) dX4_factorFor_79 ?_
        refine lv_iload hx hb dX4_factorFor_82 (lv_at hl 0 rfl) ?_
        obtain ⟨hn84, hr⟩ := chk_e hr
        refine xiald hx hb hK hW (k := 12) (t := 22) rfl (by decide) (by decide) rfl (n := 6) hn84 (jx := (ix x4_5)) rfl dX4_factorFor_84 ?_
        rw [← Option.some.inj hr]
        exact xiret hx hb hr0 hlocks hW adR_rf dX4_factorFor_85
      · have hr := br_n c1 hr
        refine lv_iload_n hx hb dX4_factorFor_70 rfl (lv_at hl 3 rfl) ?_
        refine lv_aload_n hx hb dX4_factorFor_71 rfl (lv_at hl 2 rfl) ?_
        refine g4_2 hx hb hts hi4 hown hK hW (k := 10) rfl (hts _ (wm 5 rfl)) dX4_factorFor_72 ?_
        refine lv_icmp_lt (tgt := 86) hx hb dX4_factorFor_75 (by decide) (fun c1 => ?_) (fun c1 => ?_)
        · have hr := br_p c1 hr
          refine lv_aload_n hx hb dX4_factorFor_86 rfl (lv_at hl 2 rfl) ?_
          refine g4_0 hx hb hts hi4 hown hK hW (k := 10) rfl (hts _ (wm 6 rfl)) dX4_factorFor_87 ?_
          refine lv_iload hx hb dX4_factorFor_90 (lv_at hl 0 rfl) ?_
          obtain ⟨hn92, hr⟩ := chk_e hr
          refine xiald hx hb hK hW (k := 11) (t := 22) rfl (by decide) (by decide) rfl (n := 6) hn92 (jx := (ix x4_5)) rfl dX4_factorFor_92 ?_
          refine lv_i2l hx hb dX4_factorFor_93 rfl ?_
          obtain ⟨x5_6, ex5_6, hr⟩ := lt1_e hr
          rw [← ex5_6]
          refine lv_lstore (lv' := [(5, .long x5_6), (4, .int x4_5), (2, .int x2_1), (0, .ref (ad 10)), (3, .int x3_3)]) hx hb dX4_factorFor_94 hl (by decide) rfl (fun ls hl => ?_)
          refine lv_aload_n hx hb dX4_factorFor_96 rfl (lv_at hl 3 rfl) ?_
          refine g4_0 hx hb hts hi4 hown hK hW (k := 10) rfl (hts _ (wm 6 rfl)) dX4_factorFor_97 ?_
          refine lv_iload_n hx hb dX4_factorFor_100 rfl (lv_at hl 4 rfl) ?_
          obtain ⟨hn101, hr⟩ := chk_e hr
          refine xiald hx hb hK hW (k := 11) (t := 22) rfl (by decide) (by decide) rfl (n := 6) hn101 (jx := (ix x3_3)) rfl dX4_factorFor_101 ?_
          refine lv_i2l hx hb dX4_factorFor_102 rfl ?_
          obtain ⟨x7_7, ex7_7, hr⟩ := lt1_e hr
          rw [← ex7_7]
          refine lv_lstore (lv' := [(7, .long x7_7), (5, .long x5_6), (4, .int x4_5), (2, .int x2_1), (0, .ref (ad 10)), (3, .int x3_3)]) hx hb dX4_factorFor_103 hl (by decide) rfl (fun ls hl => ?_)
          refine lv_aload_n hx hb dX4_factorFor_105 rfl (lv_at hl 4 rfl) ?_
          refine g4_1 hx hb hts hi4 hown hK hW (k := 10) rfl (hts _ (wm 7 rfl)) dX4_factorFor_106 ?_
          refine lv_iload hx hb dX4_factorFor_109 (lv_at hl 2 rfl) ?_
          obtain ⟨hn111, hr⟩ := chk_e hr
          refine xiald hx hb hK hW (k := 12) (t := 22) rfl (by decide) (by decide) rfl (n := 6) hn111 (jx := (ix x4_5)) rfl dX4_factorFor_111 ?_
          refine lv_i2l hx hb dX4_factorFor_112 rfl ?_
          refine lv_lload hx hb dX4_factorFor_113 (lv_at hl 0 rfl) ?_
          refine lv_iload_n hx hb dX4_factorFor_115 rfl (lv_at hl 3 rfl) ?_
          refine lv_i2l hx hb dX4_factorFor_116 rfl ?_
          refine lv_lsub hx hb dX4_factorFor_117 ?_
          refine lv_lmul hx hb dX4_factorFor_118 ?_
          refine lv_aload_n hx hb dX4_factorFor_119 rfl (lv_at hl 4 rfl) ?_
          refine g4_1 hx hb hts hi4 hown hK hW (k := 10) rfl (hts _ (wm 7 rfl)) dX4_factorFor_120 ?_
          refine lv_iload_n hx hb dX4_factorFor_123 rfl (lv_at hl 5 rfl) ?_
          obtain ⟨hn124, hr⟩ := chk_e hr
          refine xiald hx hb hK hW (k := 12) (t := 22) rfl (by decide) (by decide) rfl (n := 6) hn124 (jx := (ix x3_3)) rfl dX4_factorFor_124 ?_
          refine lv_i2l hx hb dX4_factorFor_125 rfl ?_
          refine lv_iload_n hx hb dX4_factorFor_126 rfl (lv_at hl 3 rfl) ?_
          refine lv_i2l hx hb dX4_factorFor_127 rfl ?_
          refine lv_lload hx hb dX4_factorFor_128 (lv_at hl 1 rfl) ?_
          refine lv_lsub hx hb dX4_factorFor_130 ?_
          refine lv_lmul hx hb dX4_factorFor_131 ?_
          refine lv_ladd hx hb dX4_factorFor_132 ?_
          refine lv_lload hx hb dX4_factorFor_133 (lv_at hl 0 rfl) ?_
          refine lv_lload hx hb dX4_factorFor_135 (lv_at hl 1 rfl) ?_
          refine lv_lsub hx hb dX4_factorFor_137 ?_
          obtain ⟨r_8, hc138, hr⟩ := ob1_e hr
          refine xk_l (va_runSN (As := [.long (((Int32.toInt64 (gI M 12 (ix x4_5))) * (x7_7 - (Int32.toInt64 x2_1))) + ((Int32.toInt64 (gI M 12 (ix x3_3))) * ((Int32.toInt64 x2_1) - x5_6))), .long (x7_7 - x5_6)]) (rest := []) ⟨hx, hb, hml, hown, hts⟩ (c_X10_quotient l D cA ad M (((Int32.toInt64 (gI M 12 (ix x4_5))) * (x7_7 - (Int32.toInt64 x2_1))) + ((Int32.toInt64 (gI M 12 (ix x3_3))) * ((Int32.toInt64 x2_1) - x5_6))) (x7_7 - x5_6) hc138) ⟨va_cnB 2 hts gX4_factorFor_X10_quotient_n38 rfl rfl rfl hK.2.2.2.2.2.2.2.2.2.2.2.2.2.2.2.1 (hts _ (wm 9 rfl)) (by decide +kernel) ⟨Nat.le_of_ble_eq_true rfl, Nat.le_of_ble_eq_true rfl⟩, (hts _ (wm 8 rfl)), trivial⟩ (xpreS hK hW) rfl rfl hl.1 rfl (lv_room (Nat.le_of_ble_eq_true rfl)) dX4_factorFor_138 ⟨Nat.le_of_ble_eq_true rfl, Nat.le_of_ble_eq_true rfl⟩) hW (fun H locs hW => ?_)
          refine lv_l2i hx hb dX4_factorFor_141 rfl ?_
          rw [← Option.some.inj hr]
          exact xiret hx hb hr0 hlocks hW adR_rf dX4_factorFor_142
        · have hr := br_n c1 hr
          refine lv_aload_n hx hb dX4_factorFor_78 rfl (lv_at hl 2 rfl) ?_
          refine g4_1 hx hb hts hi4 hown hK hW (k := 10) rfl (hts _ (wm 7 rfl)) dX4_factorFor_79 ?_
          refine lv_iload hx hb dX4_factorFor_82 (lv_at hl 0 rfl) ?_
          obtain ⟨hn84, hr⟩ := chk_e hr
          refine xiald hx hb hK hW (k := 12) (t := 22) rfl (by decide) (by decide) rfl (n := 6) hn84 (jx := (ix x4_5)) rfl dX4_factorFor_84 ?_
          rw [← Option.some.inj hr]
          exact xiret hx hb hr0 hlocks hW adR_rf dX4_factorFor_85
    · have hr := br_p c1 hr
      refine lv_aload_n hx hb dX4_factorFor_52 rfl (lv_at hl 1 rfl) ?_
      refine g4_1 hx hb hts hi4 hown hK hW (k := 10) rfl (hts _ (wm 7 rfl)) dX4_factorFor_53 ?_
      refine lv_iconst (v := (0 : Int32)) hx hb dX4_factorFor_56 (by decide) ?_
      refine xiald hx hb hK hW (k := 12) (t := 22) rfl (by decide) (by decide) rfl (n := 6) (by decide) (jx := 0) (by decide) dX4_factorFor_57 ?_
      rw [← Option.some.inj hr]
      exact xiret hx hb hr0 hlocks hW adR_rf dX4_factorFor_58
  · have hr := br_p c1 hr
    refine lv_sipush (v := (1000 : Int32)) hx hb dX4_factorFor_44 (by decide) ?_
    rw [← Option.some.inj hr]
    exact xiret hx hb hr0 hlocks hW adR_rf dX4_factorFor_47

set_option maxHeartbeats 4000000 in
set_option maxRecDepth 100000 in
theorem c_X2_averageVelocities (l : Launch) (D : va_G) (cA : Nat → ClassId) (ad : Nat → Nat) (M : Mm) {M' : Mm} (hr : f_X2_averageVelocities M = some M') : Met l yX2_averageVelocities wsX2_averageVelocities ({ frames := 2, cells := 0, slots := 0, locals := 58 }) (PcX D true cA ad M [.ref (ad 232), .ref (ad 0)]) (QvX false D true cA ad M') 0 0 (AX true ad) := by
  refine Met.ofW (cc := cX2_averageVelocities) (maxL := 2) (ret := none) (by decide) rfl ?_
  intro p e s m args below meth c s₁ B hml hv
  obtain ⟨hav, hP0, hK⟩ := hv
  have hx := B.exec
  have hb := B.bytes
  have hr0 := B.returns
  have hts := atoms_spec (ws := wsX2_averageVelocities) B.pre
  have hown : s.vm.findClass RX2 = some m.cls := findClass_of_methodNamed B.named
  have hlocks := B.notSynchronized
  have hW := xstart hP0
  have hi2 : ∀ w ∈ wsX20, w ∈ wsX2_averageVelocities := fun w h => List.mem_cons_of_mem _ (List.mem_append_left _ (List.mem_append_left _ (List.mem_append_left _ (List.mem_append_right _ h))))
  have hi8 : ∀ w ∈ wsX80, w ∈ wsX2_averageVelocities := fun w h => List.mem_cons_of_mem _ (List.mem_append_left _ (List.mem_append_left _ (List.mem_append_right _ h)))
  have hl := lv_entry ([.ref (ad 232), .ref (ad 0)]) (n := 2) (Nat.le_of_ble_eq_true rfl)
  have hef := lg_entry_eq m ([.ref (ad 232), .ref (ad 0)]) 2
  rw [← hav] at hef
  rw [hef]
  clear hef
  generalize (lg_sl ([.ref (ad 232), .ref (ad 0)]) ++ List.replicate (2 - (lg_sl ([.ref (ad 232), .ref (ad 0)])).length) Slot.unset).toArray = ls at hl ⊢
  have hl : lv_has ls 2 [(0, .ref (ad 232)), (1, .ref (ad 0))] := hl
  clear hP0
  unfold f_X2_averageVelocities at hr
  refine lv_aload_n hx hb dX2_averageVelocities_0 rfl (lv_at hl 0 rfl) ?_
  refine lv_iconst (v := (0 : Int32)) hx hb dX2_averageVelocities_1 (by decide) ?_
  obtain ⟨M_1, eM_1, hr⟩ := lt1_e hr
  refine p2_8 hx hb hts hi2 hown hK hW (k := 232) rfl (hts _ (wm 1 rfl)) dX2_averageVelocities_2 (fun H locs hW => ?_)
  rw [← eM_1] at hW
  refine lv_aload_n hx hb dX2_averageVelocities_5 rfl (lv_at hl 0 rfl) ?_
  refine lv_ldc (v := (-2000000005 : Int32)) hx hb hown (hts _ (wm 2 rfl)) dX2_averageVelocities_6 ?_
  obtain ⟨M_2, eM_2, hr⟩ := lt1_e hr
  refine p2_9 hx hb hts hi2 hown hK hW (k := 232) rfl (hts _ (wm 3 rfl)) dX2_averageVelocities_8 (fun H locs hW => ?_)
  rw [← eM_2] at hW
  refine lv_aload_n hx hb dX2_averageVelocities_11 rfl (lv_at hl 0 rfl) ?_
  refine lv_ldc (v := (-2000000005 : Int32)) hx hb hown (hts _ (wm 2 rfl)) dX2_averageVelocities_12 ?_
  obtain ⟨M_3, eM_3, hr⟩ := lt1_e hr
  refine p2_10 hx hb hts hi2 hown hK hW (k := 232) rfl (hts _ (wm 4 rfl)) dX2_averageVelocities_14 (fun H locs hW => ?_)
  rw [← eM_3] at hW
  refine lv_aload_n hx hb dX2_averageVelocities_17 rfl (lv_at hl 0 rfl) ?_
  refine g2_6 hx hb hts hi2 hown hK hW (k := 232) rfl (hts _ (wm 5 rfl)) dX2_averageVelocities_18 ?_
  refine lv_if_eq (tgt := 83) hx hb dX2_averageVelocities_21 (by decide) (fun c1 => ?_) (fun c1 => ?_)
  · have hr := br_p c1 hr
    rw [← Option.some.inj hr]
    exact xvret hx hb hr0 hlocks hW adR_rf dX2_averageVelocities_83
  · have hr := br_n c1 hr
    refine lv_aload_n hx hb dX2_averageVelocities_24 rfl (lv_at hl 0 rfl) ?_
    refine lv_aload_n hx hb dX2_averageVelocities_25 rfl (lv_at hl 1 rfl) ?_
    refine lv_aload_n hx hb dX2_averageVelocities_26 rfl (lv_at hl 0 rfl) ?_
    refine lv_aload_n hx hb dX2_averageVelocities_27 rfl (lv_at hl 1 rfl) ?_
    refine lv_aload_n hx hb dX2_averageVelocities_28 rfl (lv_at hl 0 rfl) ?_
    refine g2_6 hx hb hts hi2 hown hK hW (k := 232) rfl (hts _ (wm 5 rfl)) dX2_averageVelocities_29 ?_
    obtain ⟨r_4, hc32, hr⟩ := ob1_e hr
    refine xk_i (va_runV (As := [.ref (ad 0), .int (gI M_3 232 6)]) (rest := [.ref (ad 0), .ref (ad 232)]) ⟨hx, hb, hml, hown, hts⟩ (c_X2_weightedMean l D cA ad M_3 (gI M_3 232 6) hc32) (cwV 2 hts gX2_averageVelocities_X2_weightedMean rfl rfl rfl (by decide +kernel) ⟨Nat.le_of_ble_eq_true rfl, Nat.le_of_ble_eq_true rfl⟩) (xpreV hK hW (k := 232) rfl (by decide) rfl) rfl rfl hl.1 rfl (lv_room (Nat.le_of_ble_eq_true rfl)) dX2_averageVelocities_32 ⟨Nat.le_of_ble_eq_true rfl, Nat.le_of_ble_eq_true rfl⟩) hW (fun H locs hW => ?_)
    obtain ⟨M_5, hc35, hr⟩ := ob1_e hr
    refine xk_v (va_runV (As := [.ref (ad 0), .int r_4]) (rest := []) ⟨hx, hb, hml, hown, hts⟩ (c_X2_substituteFrom l D cA ad M_3 r_4 hc35) (cwV 2 hts gX2_averageVelocities_X2_substituteFrom rfl rfl rfl (by decide +kernel) ⟨Nat.le_of_ble_eq_true rfl, Nat.le_of_ble_eq_true rfl⟩) (xpreV hK hW (k := 232) rfl (by decide) rfl) rfl rfl hl.1 rfl (lv_room (Nat.le_of_ble_eq_true rfl)) dX2_averageVelocities_35 ⟨Nat.le_of_ble_eq_true rfl, Nat.le_of_ble_eq_true rfl⟩) hW (fun H locs hW => ?_)
    refine lv_aload_n hx hb dX2_averageVelocities_38 rfl (lv_at hl 0 rfl) ?_
    refine lv_aload_n hx hb dX2_averageVelocities_39 rfl (lv_at hl 0 rfl) ?_
    refine lv_aload_n hx hb dX2_averageVelocities_40 rfl (lv_at hl 1 rfl) ?_
    refine lv_aload_n hx hb dX2_averageVelocities_41 rfl (lv_at hl 0 rfl) ?_
    refine g2_6 hx hb hts hi2 hown hK hW (k := 232) rfl (hts _ (wm 5 rfl)) dX2_averageVelocities_42 ?_
    refine lv_aload_n hx hb dX2_averageVelocities_45 rfl (lv_at hl 0 rfl) ?_
    refine g2_8 hx hb hts hi2 hown hK hW (k := 232) rfl (hts _ (wm 1 rfl)) dX2_averageVelocities_46 ?_
    refine lv_ior hx hb dX2_averageVelocities_49 ?_
    obtain ⟨r_6, hc50, hr⟩ := ob1_e hr
    refine xk_i (va_runV (As := [.ref (ad 0), .int ((gI M_5 232 6) ||| (gI M_5 232 8))]) (rest := [.ref (ad 232)]) ⟨hx, hb, hml, hown, hts⟩ (c_X2_weightedMean l D cA ad M_5 ((gI M_5 232 6) ||| (gI M_5 232 8)) hc50) (cwV 2 hts gX2_averageVelocities_X2_weightedMean rfl rfl rfl (by decide +kernel) ⟨Nat.le_of_ble_eq_true rfl, Nat.le_of_ble_eq_true rfl⟩) (xpreV hK hW (k := 232) rfl (by decide) rfl) rfl rfl hl.1 rfl (lv_room (Nat.le_of_ble_eq_true rfl)) dX2_averageVelocities_50 ⟨Nat.le_of_ble_eq_true rfl, Nat.le_of_ble_eq_true rfl⟩) hW (fun H locs hW => ?_)
    obtain ⟨M_7, eM_7, hr⟩ := lt1_e hr
    refine p2_9 hx hb hts hi2 hown hK hW (k := 232) rfl (hts _ (wm 3 rfl)) dX2_averageVelocities_53 (fun H locs hW => ?_)
    rw [← eM_7] at hW
    refine lv_aload_n hx hb dX2_averageVelocities_56 rfl (lv_at hl 0 rfl) ?_
    refine lv_aload_n hx hb dX2_averageVelocities_57 rfl (lv_at hl 0 rfl) ?_
    refine g2_9 hx hb hts hi2 hown hK hW (k := 232) rfl (hts _ (wm 3 rfl)) dX2_averageVelocities_58 ?_
    refine lv_i2l hx hb dX2_averageVelocities_61 rfl ?_
    refine lv_aload_n hx hb dX2_averageVelocities_62 rfl (lv_at hl 1 rfl) ?_
    refine g8_2 hx hb hts hi8 hown hK hW (k := 0) rfl (hts _ (wm 6 rfl)) dX2_averageVelocities_63 ?_
    refine lv_aload_n hx hb dX2_averageVelocities_66 rfl (lv_at hl 0 rfl) ?_
    refine g2_9 hx hb hts hi2 hown hK hW (k := 232) rfl (hts _ (wm 3 rfl)) dX2_averageVelocities_67 ?_
    obtain ⟨r_8, hc70, hr⟩ := ob1_e hr
    refine xk_i (va_runV (As := [.int (gI M_7 232 9)]) (rest := [.long (Int32.toInt64 (gI M_7 232 9)), .ref (ad 232)]) ⟨hx, hb, hml, hown, hts⟩ (c_X4_factorFor l D cA ad M_7 (gI M_7 232 9) hc70) (cwV 1 hts gX2_averageVelocities_X4_factorFor rfl rfl rfl (by decide +kernel) ⟨Nat.le_of_ble_eq_true rfl, Nat.le_of_ble_eq_true rfl⟩) (xpreV hK hW (k := 10) rfl (by decide) rfl) rfl rfl hl.1 rfl (lv_room (Nat.le_of_ble_eq_true rfl)) dX2_averageVelocities_70 ⟨Nat.le_of_ble_eq_true rfl, Nat.le_of_ble_eq_true rfl⟩) hW (fun H locs hW => ?_)
    refine lv_i2l hx hb dX2_averageVelocities_73 rfl ?_
    refine lv_lmul hx hb dX2_averageVelocities_74 ?_
    refine lv_ldc2 (v := (1000 : Int64)) hx hb hown (hts _ (wm 7 rfl)) dX2_averageVelocities_75 ?_
    refine lv_ldiv hx hb dX2_averageVelocities_78 (by decide) ?_
    refine lv_l2i hx hb dX2_averageVelocities_79 rfl ?_
    obtain ⟨M_9, eM_9, hr⟩ := lt1_e hr
    refine p2_10 hx hb hts hi2 hown hK hW (k := 232) rfl (hts _ (wm 4 rfl)) dX2_averageVelocities_80 (fun H locs hW => ?_)
    rw [← eM_9] at hW
    rw [← Option.some.inj hr]
    exact xvret hx hb hr0 hlocks hW adR_rf dX2_averageVelocities_83

set_option maxHeartbeats 4000000 in
set_option maxRecDepth 100000 in
theorem c_X2_judge (l : Launch) (D : va_G) (cA : Nat → ClassId) (ad : Nat → Nat) (M : Mm) (x2 : Int32) {M' : Mm} (hr : f_X2_judge x2 M = some M') : Met l yX2_judge wsX2_judge ({ frames := 3, cells := 0, slots := 0, locals := 79 }) (PcX D true cA ad M [.ref (ad 232), .ref (ad 0), .int x2]) (QvX false D true cA ad M') 0 0 (AX true ad) := by
  refine Met.ofW (cc := cX2_judge) (maxL := 3) (ret := none) (by decide) rfl ?_
  intro p e s m args below meth c s₁ B hml hv
  obtain ⟨hav, hP0, hK⟩ := hv
  have hx := B.exec
  have hb := B.bytes
  have hr0 := B.returns
  have hts := atoms_spec (ws := wsX2_judge) B.pre
  have hown : s.vm.findClass RX2 = some m.cls := findClass_of_methodNamed B.named
  have hlocks := B.notSynchronized
  have hW := xstart hP0
  have hi2 : ∀ w ∈ wsX20, w ∈ wsX2_judge := fun w h => List.mem_cons_of_mem _ (List.mem_append_left _ (List.mem_append_left _ (List.mem_append_left _ (List.mem_append_left _ (List.mem_append_right _ h)))))
  have hl := lv_entry ([.ref (ad 232), .ref (ad 0), .int x2]) (n := 3) (Nat.le_of_ble_eq_true rfl)
  have hef := lg_entry_eq m ([.ref (ad 232), .ref (ad 0), .int x2]) 3
  rw [← hav] at hef
  rw [hef]
  clear hef
  generalize (lg_sl ([.ref (ad 232), .ref (ad 0), .int x2]) ++ List.replicate (3 - (lg_sl ([.ref (ad 232), .ref (ad 0), .int x2])).length) Slot.unset).toArray = ls at hl ⊢
  have hl : lv_has ls 3 [(0, .ref (ad 232)), (1, .ref (ad 0)), (2, .int x2)] := hl
  clear hP0
  unfold f_X2_judge at hr
  refine lv_aload_n hx hb dX2_judge_0 rfl (lv_at hl 0 rfl) ?_
  refine lv_aload_n hx hb dX2_judge_1 rfl (lv_at hl 1 rfl) ?_
  obtain ⟨M_1, hc2, hr⟩ := ob1_e hr
  refine xk_v (va_runV (As := [.ref (ad 0)]) (rest := []) ⟨hx, hb, hml, hown, hts⟩ (c_X2_findShifts l D cA ad M hc2) (cwV 1 hts gX2_judge_X2_findShifts rfl rfl rfl (by decide +kernel) ⟨Nat.le_of_ble_eq_true rfl, Nat.le_of_ble_eq_true rfl⟩) (xpreV hK hW (k := 232) rfl (by decide) rfl) rfl rfl hl.1 rfl (lv_room (Nat.le_of_ble_eq_true rfl)) dX2_judge_2 ⟨Nat.le_of_ble_eq_true rfl, Nat.le_of_ble_eq_true rfl⟩) hW (fun H locs hW => ?_)
  refine lv_aload_n hx hb dX2_judge_5 rfl (lv_at hl 0 rfl) ?_
  refine lv_aload_n hx hb dX2_judge_6 rfl (lv_at hl 0 rfl) ?_
  refine lv_aload_n hx hb dX2_judge_7 rfl (lv_at hl 1 rfl) ?_
  refine lv_aload_n hx hb dX2_judge_8 rfl (lv_at hl 0 rfl) ?_
  refine g2_1 hx hb hts hi2 hown hK hW (k := 232) rfl (hts _ (wm 1 rfl)) dX2_judge_9 ?_
  obtain ⟨r_3, M_2, hc12, hr⟩ := ob2_e hr
  refine xk_i (va_runV (As := [.ref (ad 0), .ref (ad 234)]) (rest := [.ref (ad 232)]) ⟨hx, hb, hml, hown, hts⟩ (c_X2_clearTrueShifts l D cA ad M_1 234 (rfl : KS true 234 = 20) hc12) (cwV 2 hts gX2_judge_X2_clearTrueShifts rfl rfl rfl (by decide +kernel) ⟨Nat.le_of_ble_eq_true rfl, Nat.le_of_ble_eq_true rfl⟩) (xpreV hK hW (k := 232) rfl (by decide) rfl) rfl rfl hl.1 rfl (lv_room (Nat.le_of_ble_eq_true rfl)) dX2_judge_12 ⟨Nat.le_of_ble_eq_true rfl, Nat.le_of_ble_eq_true rfl⟩) hW (fun H locs hW => ?_)
  refine lv_aload_n hx hb dX2_judge_15 rfl (lv_at hl 0 rfl) ?_
  refine lv_aload_n hx hb dX2_judge_16 rfl (lv_at hl 1 rfl) ?_
  refine lv_aload_n hx hb dX2_judge_17 rfl (lv_at hl 0 rfl) ?_
  refine g2_2 hx hb hts hi2 hown hK hW (k := 232) rfl (hts _ (wm 2 rfl)) dX2_judge_18 ?_
  obtain ⟨r_5, M_4, hc21, hr⟩ := ob2_e hr
  refine xk_i (va_runV (As := [.ref (ad 0), .ref (ad 235)]) (rest := [.int r_3, .ref (ad 232)]) ⟨hx, hb, hml, hown, hts⟩ (c_X2_clearTrueShifts l D cA ad M_2 235 (rfl : KS true 235 = 20) hc21) (cwV 2 hts gX2_judge_X2_clearTrueShifts rfl rfl rfl (by decide +kernel) ⟨Nat.le_of_ble_eq_true rfl, Nat.le_of_ble_eq_true rfl⟩) (xpreV hK hW (k := 232) rfl (by decide) rfl) rfl rfl hl.1 rfl (lv_room (Nat.le_of_ble_eq_true rfl)) dX2_judge_21 ⟨Nat.le_of_ble_eq_true rfl, Nat.le_of_ble_eq_true rfl⟩) hW (fun H locs hW => ?_)
  refine lv_iadd hx hb dX2_judge_24 ?_
  obtain ⟨M_6, eM_6, hr⟩ := lt1_e hr
  refine p2_5 hx hb hts hi2 hown hK hW (k := 232) rfl (hts _ (wm 3 rfl)) dX2_judge_25 (fun H locs hW => ?_)
  rw [← eM_6] at hW
  refine lv_aload_n hx hb dX2_judge_28 rfl (lv_at hl 0 rfl) ?_
  refine lv_aload_n hx hb dX2_judge_29 rfl (lv_at hl 1 rfl) ?_
  refine lv_iload_n hx hb dX2_judge_30 rfl (lv_at hl 2 rfl) ?_
  obtain ⟨M_7, hc31, hr⟩ := ob1_e hr
  refine xk_v (va_runV (As := [.ref (ad 0), .int x2]) (rest := []) ⟨hx, hb, hml, hown, hts⟩ (c_X2_decideOutcomes l D cA ad M_6 x2 hc31) (cwV 2 hts gX2_judge_X2_decideOutcomes rfl rfl rfl (by decide +kernel) ⟨Nat.le_of_ble_eq_true rfl, Nat.le_of_ble_eq_true rfl⟩) (xpreV hK hW (k := 232) rfl (by decide) rfl) rfl rfl hl.1 rfl (lv_room (Nat.le_of_ble_eq_true rfl)) dX2_judge_31 ⟨Nat.le_of_ble_eq_true rfl, Nat.le_of_ble_eq_true rfl⟩) hW (fun H locs hW => ?_)
  refine lv_aload_n hx hb dX2_judge_34 rfl (lv_at hl 0 rfl) ?_
  refine lv_aload_n hx hb dX2_judge_35 rfl (lv_at hl 1 rfl) ?_
  obtain ⟨M_8, hc36, hr⟩ := ob1_e hr
  refine xk_v (va_runV (As := [.ref (ad 0)]) (rest := []) ⟨hx, hb, hml, hown, hts⟩ (c_X2_averageVelocities l D cA ad M_7 hc36) (cwV 1 hts gX2_judge_X2_averageVelocities rfl rfl rfl (by decide +kernel) ⟨Nat.le_of_ble_eq_true rfl, Nat.le_of_ble_eq_true rfl⟩) (xpreV hK hW (k := 232) rfl (by decide) rfl) rfl rfl hl.1 rfl (lv_room (Nat.le_of_ble_eq_true rfl)) dX2_judge_36 ⟨Nat.le_of_ble_eq_true rfl, Nat.le_of_ble_eq_true rfl⟩) hW (fun H locs hW => ?_)
  rw [← Option.some.inj hr]
  exact xvret hx hb hr0 hlocks hW adR_rf dX2_judge_39

set_option maxHeartbeats 4000000 in
set_option maxRecDepth 100000 in
theorem c_X2_outcomeOf (l : Launch) (D : va_G) (cA : Nat → ClassId) (ad : Nat → Nat) (M : Mm) (x1 : Int32) {r : Int32} (hr : f_X2_outcomeOf x1 M = some r) : Met l yX2_outcomeOf wsX2_outcomeOf ({ frames := 0, cells := 0, slots := 0, locals := 0 }) (PcX D true cA ad M [.ref (ad 232), .int x1]) (QiX false D true cA ad r M) 0 0 (AX true ad) := by
  refine Met.ofW (cc := cX2_outcomeOf) (maxL := 2) (ret := (some .int)) (by decide) rfl ?_
  intro p e s m args below meth c s₁ B hml hv
  obtain ⟨hav, hP0, hK⟩ := hv
  have hx := B.exec
  have hb := B.bytes
  have hr0 := B.returns
  have hts := atoms_spec (ws := wsX2_outcomeOf) B.pre
  have hown : s.vm.findClass RX2 = some m.cls := findClass_of_methodNamed B.named
  have hlocks := B.notSynchronized
  have hW := xstart hP0
  have hi2 : ∀ w ∈ wsX20, w ∈ wsX2_outcomeOf := fun w h => List.mem_cons_of_mem _ (List.mem_append_right _ h)
  have hl := lv_entry ([.ref (ad 232), .int x1]) (n := 2) (Nat.le_of_ble_eq_true rfl)
  have hef := lg_entry_eq m ([.ref (ad 232), .int x1]) 2
  rw [← hav] at hef
  rw [hef]
  clear hef
  generalize (lg_sl ([.ref (ad 232), .int x1]) ++ List.replicate (2 - (lg_sl ([.ref (ad 232), .int x1])).length) Slot.unset).toArray = ls at hl ⊢
  have hl : lv_has ls 2 [(0, .ref (ad 232)), (1, .int x1)] := hl
  clear hP0
  unfold f_X2_outcomeOf at hr
  refine lv_iload_n hx hb dX2_outcomeOf_0 rfl (lv_at hl 1 rfl) ?_
  refine lv_if_lt (tgt := 18) hx hb dX2_outcomeOf_1 (by decide) (fun c1 => ?_) (fun c1 => ?_)
  · have hr := br_p c1 hr
    refine lv_iconst (v := (0 : Int32)) hx hb dX2_outcomeOf_18 (by decide) ?_
    rw [← Option.some.inj hr]
    exact xiret hx hb hr0 hlocks hW adR_rf dX2_outcomeOf_19
  · have hr := br_n c1 hr
    refine lv_iload_n hx hb dX2_outcomeOf_4 rfl (lv_at hl 1 rfl) ?_
    refine lv_iconst (v := (4 : Int32)) hx hb dX2_outcomeOf_5 (by decide) ?_
    refine lv_icmp_ge (tgt := 18) hx hb dX2_outcomeOf_6 (by decide) (fun c1 => ?_) (fun c1 => ?_)
    · have hr := br_p c1 hr
      refine lv_iconst (v := (0 : Int32)) hx hb dX2_outcomeOf_18 (by decide) ?_
      rw [← Option.some.inj hr]
      exact xiret hx hb hr0 hlocks hW adR_rf dX2_outcomeOf_19
    · have hr := br_n c1 hr
      refine lv_aload_n hx hb dX2_outcomeOf_9 rfl (lv_at hl 0 rfl) ?_
      refine g2_3 hx hb hts hi2 hown hK hW (k := 232) rfl (hts _ (wm 1 rfl)) dX2_outcomeOf_10 ?_
      refine lv_iload_n hx hb dX2_outcomeOf_13 rfl (lv_at hl 1 rfl) ?_
      obtain ⟨hn14, hr⟩ := chk_e hr
      refine xiald hx hb hK hW (k := 236) (t := 20) rfl (by decide) (by decide) rfl (n := 4) hn14 (jx := (ix x1)) rfl dX2_outcomeOf_14 ?_
      refine lv_goto (tgt := 19) hx hb dX2_outcomeOf_15 (by decide) ?_
      rw [← Option.some.inj hr]
      exact xiret hx hb hr0 hlocks hW adR_rf dX2_outcomeOf_19

set_option maxHeartbeats 4000000 in
set_option maxRecDepth 100000 in
theorem c_X2_hasOutlier (l : Launch) (D : va_G) (cA : Nat → ClassId) (ad : Nat → Nat) (M : Mm) {r : Int32} (hr : f_X2_hasOutlier M = some r) : Met l yX2_hasOutlier wsX2_hasOutlier ({ frames := 0, cells := 0, slots := 0, locals := 0 }) (PcX D true cA ad M [.ref (ad 232)]) (QiX false D true cA ad r M) 0 0 (AX true ad) := by
  refine Met.ofW (cc := cX2_hasOutlier) (maxL := 5) (ret := (some .boolean)) (by decide) rfl ?_
  intro p e s m args below meth c s₁ B hml hv
  obtain ⟨hav, hP0, hK⟩ := hv
  have hx := B.exec
  have hb := B.bytes
  have hr0 := B.returns
  have hts := atoms_spec (ws := wsX2_hasOutlier) B.pre
  have hown : s.vm.findClass RX2 = some m.cls := findClass_of_methodNamed B.named
  have hlocks := B.notSynchronized
  have hW := xstart hP0
  have hi2 : ∀ w ∈ wsX20, w ∈ wsX2_hasOutlier := fun w h => List.mem_cons_of_mem _ (List.mem_append_right _ h)
  have hl := lv_entry ([.ref (ad 232)]) (n := 5) (Nat.le_of_ble_eq_true rfl)
  have hef := lg_entry_eq m ([.ref (ad 232)]) 5
  rw [← hav] at hef
  rw [hef]
  clear hef
  generalize (lg_sl ([.ref (ad 232)]) ++ List.replicate (5 - (lg_sl ([.ref (ad 232)])).length) Slot.unset).toArray = ls at hl ⊢
  have hl : lv_has ls 5 [(0, .ref (ad 232))] := hl
  clear hP0
  unfold f_X2_hasOutlier at hr
  refine lv_aload_n hx hb dX2_hasOutlier_0 rfl (lv_at hl 0 rfl) ?_
  refine g2_3 hx hb hts hi2 hown hK hW (k := 232) rfl (hts _ (wm 1 rfl)) dX2_hasOutlier_1 ?_
  refine lv_astore_n (lv' := [(1, .ref (ad 236)), (0, .ref (ad 232))]) hx hb dX2_hasOutlier_4 rfl hl (by decide) rfl (fun ls hl => ?_)
  refine lv_aload_n hx hb dX2_hasOutlier_5 rfl (lv_at hl 0 rfl) ?_
  refine xalen hx hb hK hW (k := 236) (t := 20) rfl (by decide) (by decide) (v := (4 : Int32)) rfl dX2_hasOutlier_6 ?_
  refine lv_istore_n (lv' := [(2, .int (4 : Int32)), (1, .ref (ad 236)), (0, .ref (ad 232))]) hx hb dX2_hasOutlier_7 rfl hl (by decide) rfl (fun ls hl => ?_)
  refine lv_iconst (v := (0 : Int32)) hx hb dX2_hasOutlier_8 (by decide) ?_
  refine lv_istore_n (lv' := [(3, .int (0 : Int32)), (2, .int (4 : Int32)), (1, .ref (ad 236)), (0, .ref (ad 232))]) hx hb dX2_hasOutlier_9 rfl hl (by decide) rfl (fun ls hl => ?_)
  have hL10_1 : ∀ (n : Nat) (x3_1 : Int32) (H : Heap) (locs : List Loc) (ls : Array Slot), Xw D true cA ad M (AX true ad) s.heap H locs → lv_has ls 5 [(2, .int (4 : Int32)), (1, .ref (ad 236)), (3, .int x3_1)] → f_X2_hasOutlier_L10 M n x3_1 = some r → W p l e (headSpec wsX2_hasOutlier { frames := 0, cells := 0, slots := 0, locals := 0 }).room s m args below meth c H locs 0 0 (MQ below (QiX false D true cA ad r M) args s 0 0 (AX true ad)) (F0 m 10 ls []) := by
    intro n
    induction n with
    | zero =>
      intro x3_1 H locs ls hW hl hr
      exact absurd hr (by simp [f_X2_hasOutlier_L10])
    | succ n ih =>
      intro x3_1 H locs ls hW hl hr
      rw [f_X2_hasOutlier_L10] at hr
      refine lv_iload_n hx hb dX2_hasOutlier_10 rfl (lv_at hl 2 rfl) ?_
      refine lv_iload_n hx hb dX2_hasOutlier_11 rfl (lv_at hl 0 rfl) ?_
      refine lv_icmp_ge (tgt := 34) hx hb dX2_hasOutlier_12 (by decide) (fun c1 => ?_) (fun c1 => ?_)
      · have hr := br_p c1 hr
        refine lv_iconst (v := (0 : Int32)) hx hb dX2_hasOutlier_34 (by decide) ?_
        rw [← Option.some.inj hr]
        exact xzret hx hb hr0 hlocks hW adR_rf (by decide) dX2_hasOutlier_35
      · have hr := br_n c1 hr
        refine lv_aload_n hx hb dX2_hasOutlier_15 rfl (lv_at hl 1 rfl) ?_
        refine lv_iload_n hx hb dX2_hasOutlier_16 rfl (lv_at hl 2 rfl) ?_
        obtain ⟨hn17, hr⟩ := chk_e hr
        refine xiald hx hb hK hW (k := 236) (t := 20) rfl (by decide) (by decide) rfl (n := 4) hn17 (jx := (ix x3_1)) rfl dX2_hasOutlier_17 ?_
        obtain ⟨x4_2, ex4_2, hr⟩ := lt1_e hr
        rw [← ex4_2]
        refine lv_istore (lv' := [(4, .int x4_2), (2, .int (4 : Int32)), (1, .ref (ad 236)), (3, .int x3_1)]) hx hb dX2_hasOutlier_18 hl (by decide) rfl (fun ls hl => ?_)
        refine lv_iload hx hb dX2_hasOutlier_20 (lv_at hl 0 rfl) ?_
        refine lv_iconst (v := (2 : Int32)) hx hb dX2_hasOutlier_22 (by decide) ?_
        refine lv_icmp_ne (tgt := 28) hx hb dX2_hasOutlier_23 (by decide) (fun c1 => ?_) (fun c1 => ?_)
        · have hr := br_n c1 hr
          obtain ⟨x3_3, ex3_3, hr⟩ := lt1_e hr
          refine lv_iinc (v := x3_3) (lv' := [(3, .int x3_3), (4, .int x4_2), (2, .int (4 : Int32)), (1, .ref (ad 236))]) hx hb dX2_hasOutlier_28 hl (k := 3) rfl (by rw [ex3_3]; rfl) (by decide) rfl (fun ls hl => ?_)
          refine lv_goto (tgt := 10) hx hb dX2_hasOutlier_31 (by decide) ?_
          exact ih x3_3 _ _ _ hW (lv_sub hl [2, 3, 0] rfl) hr
        · have hr := br_p c1 hr
          refine lv_iconst (v := (1 : Int32)) hx hb dX2_hasOutlier_26 (by decide) ?_
          rw [← Option.some.inj hr]
          exact xzret hx hb hr0 hlocks hW adR_rf (by decide) dX2_hasOutlier_27
  exact hL10_1 1000 (0 : Int32) _ _ _ hW (lv_sub hl [1, 2, 0] rfl) hr

set_option maxHeartbeats 4000000 in
set_option maxRecDepth 100000 in
theorem c_X10_asNumber (l : Launch) (D : va_G) (cA : Nat → ClassId) (ad : Nat → Nat) (M : Mm) (x0 : Int32) {r : Int32} (hr : f_X10_asNumber x0 M = some r) : Met l yX10_asNumber wsX10_asNumber ({ frames := 0, cells := 0, slots := 0, locals := 0 }) (PcX D true cA ad M [.int x0]) (QiX false D true cA ad r M) 0 0 (AX true ad) := by
  refine Met.ofW (cc := cX10_asNumber) (maxL := 1) (ret := (some .int)) (by decide) rfl ?_
  intro p e s m args below meth c s₁ B hml hv
  obtain ⟨hav, hP0, hK⟩ := hv
  have hx := B.exec
  have hb := B.bytes
  have hr0 := B.returns
  have hts := atoms_spec (ws := wsX10_asNumber) B.pre
  have hown : s.vm.findClass RX10 = some m.cls := findClass_of_methodNamed B.named
  have hlocks := B.notSynchronized
  have hW := xstart hP0
  have hl := lv_entry ([.int x0]) (n := 1) (Nat.le_of_ble_eq_true rfl)
  have hef := lg_entry_eq m ([.int x0]) 1
  rw [← hav] at hef
  rw [hef]
  clear hef
  generalize (lg_sl ([.int x0]) ++ List.replicate (1 - (lg_sl ([.int x0])).length) Slot.unset).toArray = ls at hl ⊢
  have hl : lv_has ls 1 [(0, .int x0)] := hl
  clear hP0
  unfold f_X10_asNumber at hr
  refine lv_iload_n hx hb dX10_asNumber_0 rfl (lv_at hl 0 rfl) ?_
  refine lv_if_eq (tgt := 8) hx hb dX10_asNumber_1 (by decide) (fun c1 => ?_) (fun c1 => ?_)
  · have hr := br_p c1 hr
    refine lv_iconst (v := (0 : Int32)) hx hb dX10_asNumber_8 (by decide) ?_
    rw [← Option.some.inj hr]
    exact xiret hx hb hr0 hlocks hW adR_rf dX10_asNumber_9
  · have hr := br_n c1 hr
    refine lv_iconst (v := (1 : Int32)) hx hb dX10_asNumber_4 (by decide) ?_
    refine lv_goto (tgt := 9) hx hb dX10_asNumber_5 (by decide) ?_
    rw [← Option.some.inj hr]
    exact xiret hx hb hr0 hlocks hW adR_rf dX10_asNumber_9

set_option maxHeartbeats 4000000 in
set_option maxRecDepth 100000 in
theorem c_X2_settlePath (l : Launch) (D : va_G) (cA : Nat → ClassId) (ad : Nat → Nat) (M : Mm) (a1 : Nat) (x2 : Int32) {M' : Mm} (ha1 : KS true a1 = 3) (hr : f_X2_settlePath a1 x2 M = some M') : Met l yX2_settlePath wsX2_settlePath ({ frames := 1, cells := 0, slots := 0, locals := 23 }) (PcX D true cA ad M [.ref (ad 232), .ref (ad a1), .int x2]) (QvX false D true cA ad M') 0 0 (AX true ad) := by
  refine Met.ofW (cc := cX2_settlePath) (maxL := 3) (ret := none) (by decide) rfl ?_
  intro p e s m args below meth c s₁ B hml hv
  obtain ⟨hav, hP0, hK⟩ := hv
  have hx := B.exec
  have hb := B.bytes
  have hr0 := B.returns
  have hts := atoms_spec (ws := wsX2_settlePath) B.pre
  have hown : s.vm.findClass RX2 = some m.cls := findClass_of_methodNamed B.named
  have hlocks := B.notSynchronized
  have hW := xstart hP0
  have hi2 : ∀ w ∈ wsX20, w ∈ wsX2_settlePath := fun w h => List.mem_cons_of_mem _ (List.mem_append_left _ (List.mem_append_left _ (List.mem_append_right _ h)))
  have hi3 : ∀ w ∈ wsX30, w ∈ wsX2_settlePath := fun w h => List.mem_cons_of_mem _ (List.mem_append_left _ (List.mem_append_right _ h))
  have hi7 : ∀ w ∈ wsX70, w ∈ wsX2_settlePath := fun w h => List.mem_cons_of_mem _ (List.mem_append_right _ h)
  have hl := lv_entry ([.ref (ad 232), .ref (ad a1), .int x2]) (n := 3) (Nat.le_of_ble_eq_true rfl)
  have hef := lg_entry_eq m ([.ref (ad 232), .ref (ad a1), .int x2]) 3
  rw [← hav] at hef
  rw [hef]
  clear hef
  generalize (lg_sl ([.ref (ad 232), .ref (ad a1), .int x2]) ++ List.replicate (3 - (lg_sl ([.ref (ad 232), .ref (ad a1), .int x2])).length) Slot.unset).toArray = ls at hl ⊢
  have hl : lv_has ls 3 [(0, .ref (ad 232)), (1, .ref (ad a1)), (2, .int x2)] := hl
  clear hP0
  unfold f_X2_settlePath at hr
  refine lv_iload_n hx hb dX2_settlePath_0 rfl (lv_at hl 2 rfl) ?_
  refine lv_if_lt (tgt := 9) hx hb dX2_settlePath_1 (by decide) (fun c1 => ?_) (fun c1 => ?_)
  · have hr := br_p c1 hr
    rw [← Option.some.inj hr]
    exact xvret hx hb hr0 hlocks hW adR_rf dX2_settlePath_9
  · have hr := br_n c1 hr
    refine lv_iload_n hx hb dX2_settlePath_4 rfl (lv_at hl 2 rfl) ?_
    refine lv_iconst (v := (4 : Int32)) hx hb dX2_settlePath_5 (by decide) ?_
    refine lv_icmp_lt (tgt := 10) hx hb dX2_settlePath_6 (by decide) (fun c1 => ?_) (fun c1 => ?_)
    · have hr := br_p c1 hr
      refine lv_aload_n hx hb dX2_settlePath_10 rfl (lv_at hl 1 rfl) ?_
      refine lv_aload_n hx hb dX2_settlePath_11 rfl (lv_at hl 0 rfl) ?_
      refine g2_3 hx hb hts hi2 hown hK hW (k := 232) rfl (hts _ (wm 1 rfl)) dX2_settlePath_12 ?_
      refine lv_iload_n hx hb dX2_settlePath_15 rfl (lv_at hl 2 rfl) ?_
      obtain ⟨hn16, hr⟩ := chk_e hr
      refine xiald hx hb hK hW (k := 236) (t := 20) rfl (by decide) (by decide) rfl (n := 4) hn16 (jx := (ix x2)) rfl dX2_settlePath_16 ?_
      obtain ⟨M_1, eM_1, hr⟩ := lt1_e hr
      refine p3_10 hx hb hts hi3 hown hK hW (k := a1) ha1 (hts _ (wm 2 rfl)) dX2_settlePath_17 (fun H locs hW => ?_)
      rw [← eM_1] at hW
      refine lv_aload_n hx hb dX2_settlePath_20 rfl (lv_at hl 1 rfl) ?_
      refine lv_aload_n hx hb dX2_settlePath_21 rfl (lv_at hl 0 rfl) ?_
      refine g2_4 hx hb hts hi2 hown hK hW (k := 232) rfl (hts _ (wm 3 rfl)) dX2_settlePath_22 ?_
      refine lv_iload_n hx hb dX2_settlePath_25 rfl (lv_at hl 2 rfl) ?_
      obtain ⟨hn26, hr⟩ := chk_e hr
      refine xiald hx hb hK hW (k := 237) (t := 20) rfl (by decide) (by decide) rfl (n := 4) hn26 (jx := (ix x2)) rfl dX2_settlePath_26 ?_
      obtain ⟨M_2, eM_2, hr⟩ := lt1_e hr
      refine p3_11 hx hb hts hi3 hown hK hW (k := a1) ha1 (hts _ (wm 4 rfl)) dX2_settlePath_27 (fun H locs hW => ?_)
      rw [← eM_2] at hW
      refine lv_aload_n hx hb dX2_settlePath_30 rfl (lv_at hl 1 rfl) ?_
      refine lv_dup hx hb dX2_settlePath_31 rfl ?_
      refine g3_13 hx hb hts hi3 hown hK hW (k := a1) ha1 (hts _ (wm 5 rfl)) dX2_settlePath_32 ?_
      refine lv_aload_n hx hb dX2_settlePath_35 rfl (lv_at hl 0 rfl) ?_
      refine g2_3 hx hb hts hi2 hown hK hW (k := 232) rfl (hts _ (wm 1 rfl)) dX2_settlePath_36 ?_
      refine lv_iload_n hx hb dX2_settlePath_39 rfl (lv_at hl 2 rfl) ?_
      obtain ⟨hn40, hr⟩ := chk_e hr
      refine xiald hx hb hK hW (k := 236) (t := 20) rfl (by decide) (by decide) rfl (n := 4) hn40 (jx := (ix x2)) rfl dX2_settlePath_40 ?_
      refine lv_iconst (v := (3 : Int32)) hx hb dX2_settlePath_41 (by decide) ?_
      obtain ⟨y_3, hr, hr3⟩ := ob1_e hr
      have hj50_3 : ∀ (H : Heap) (locs : List Loc) (ls : Array Slot), Xw D true cA ad M_2 (AX true ad) s.heap H locs → lv_has ls 3 [(0, .ref (ad 232)), (1, .ref (ad a1)), (2, .int x2)] → W p l e (headSpec wsX2_settlePath { frames := 1, cells := 0, slots := 0, locals := 23 }).room s m args below meth c H locs 0 0 (MQ below (QvX false D true cA ad M') args s 0 0 (AX true ad)) (F0 m 50 ls [.int y_3, .int (gI M_2 a1 13), .ref (ad a1)]) := by
        intro H locs ls hW hl
        have hr := hr3
        obtain ⟨r_4, hc50, hr⟩ := ob1_e hr
        refine xk_i (va_runSN (As := [.int y_3]) (rest := [.int (gI M_2 a1 13), .ref (ad a1)]) ⟨hx, hb, hml, hown, hts⟩ (c_X10_asNumber l D cA ad M_2 y_3 hc50) ⟨va_cnB 1 hts gX2_settlePath_X10_asNumber_n206 rfl rfl rfl hK.2.2.2.2.2.2.2.2.2.2.2.2.2.2.2.2.2.2.1 (hts _ (wm 23 rfl)) (by decide +kernel) ⟨Nat.le_of_ble_eq_true rfl, Nat.le_of_ble_eq_true rfl⟩, (hts _ (wm 22 rfl)), trivial⟩ (xpreS hK hW) rfl rfl hl.1 rfl (lv_room (Nat.le_of_ble_eq_true rfl)) dX2_settlePath_50 ⟨Nat.le_of_ble_eq_true rfl, Nat.le_of_ble_eq_true rfl⟩) hW (fun H locs hW => ?_)
        refine lv_iadd hx hb dX2_settlePath_53 ?_
        obtain ⟨M_5, eM_5, hr⟩ := lt1_e hr
        refine p3_13 hx hb hts hi3 hown hK hW (k := a1) ha1 (hts _ (wm 5 rfl)) dX2_settlePath_54 (fun H locs hW => ?_)
        rw [← eM_5] at hW
        refine lv_aload_n hx hb dX2_settlePath_57 rfl (lv_at hl 1 rfl) ?_
        refine lv_dup hx hb dX2_settlePath_58 rfl ?_
        refine g3_14 hx hb hts hi3 hown hK hW (k := a1) ha1 (hts _ (wm 6 rfl)) dX2_settlePath_59 ?_
        refine lv_aload_n hx hb dX2_settlePath_62 rfl (lv_at hl 0 rfl) ?_
        refine g2_3 hx hb hts hi2 hown hK hW (k := 232) rfl (hts _ (wm 1 rfl)) dX2_settlePath_63 ?_
        refine lv_iload_n hx hb dX2_settlePath_66 rfl (lv_at hl 2 rfl) ?_
        obtain ⟨hn67, hr⟩ := chk_e hr
        refine xiald hx hb hK hW (k := 236) (t := 20) rfl (by decide) (by decide) rfl (n := 4) hn67 (jx := (ix x2)) rfl dX2_settlePath_67 ?_
        refine lv_iconst (v := (2 : Int32)) hx hb dX2_settlePath_68 (by decide) ?_
        obtain ⟨y_6, hr, hr3⟩ := ob1_e hr
        have hj77_6 : ∀ (H : Heap) (locs : List Loc) (ls : Array Slot), Xw D true cA ad M_5 (AX true ad) s.heap H locs → lv_has ls 3 [(0, .ref (ad 232)), (1, .ref (ad a1)), (2, .int x2)] → W p l e (headSpec wsX2_settlePath { frames := 1, cells := 0, slots := 0, locals := 23 }).room s m args below meth c H locs 0 0 (MQ below (QvX false D true cA ad M') args s 0 0 (AX true ad)) (F0 m 77 ls [.int y_6, .int (gI M_5 a1 14), .ref (ad a1)]) := by
          intro H locs ls hW hl
          have hr := hr3
          obtain ⟨r_7, hc77, hr⟩ := ob1_e hr
          refine xk_i (va_runSN (As := [.int y_6]) (rest := [.int (gI M_5 a1 14), .ref (ad a1)]) ⟨hx, hb, hml, hown, hts⟩ (c_X10_asNumber l D cA ad M_5 y_6 hc77) ⟨va_cnB 1 hts gX2_settlePath_X10_asNumber_n206 rfl rfl rfl hK.2.2.2.2.2.2.2.2.2.2.2.2.2.2.2.2.2.2.1 (hts _ (wm 23 rfl)) (by decide +kernel) ⟨Nat.le_of_ble_eq_true rfl, Nat.le_of_ble_eq_true rfl⟩, (hts _ (wm 22 rfl)), trivial⟩ (xpreS hK hW) rfl rfl hl.1 rfl (lv_room (Nat.le_of_ble_eq_true rfl)) dX2_settlePath_77 ⟨Nat.le_of_ble_eq_true rfl, Nat.le_of_ble_eq_true rfl⟩) hW (fun H locs hW => ?_)
          refine lv_iadd hx hb dX2_settlePath_80 ?_
          obtain ⟨M_8, eM_8, hr⟩ := lt1_e hr
          refine p3_14 hx hb hts hi3 hown hK hW (k := a1) ha1 (hts _ (wm 6 rfl)) dX2_settlePath_81 (fun H locs hW => ?_)
          rw [← eM_8] at hW
          refine lv_aload_n hx hb dX2_settlePath_84 rfl (lv_at hl 0 rfl) ?_
          refine g2_6 hx hb hts hi2 hown hK hW (k := 232) rfl (hts _ (wm 7 rfl)) dX2_settlePath_85 ?_
          refine lv_iload_n hx hb dX2_settlePath_88 rfl (lv_at hl 2 rfl) ?_
          obtain ⟨r_9, hc89, hr⟩ := ob1_e hr
          refine xk_i (va_runSN (As := [.int (gI M_8 232 6), .int x2]) (rest := []) ⟨hx, hb, hml, hown, hts⟩ (c_X10_contains l D cA ad M_8 (gI M_8 232 6) x2 hc89) ⟨va_cnB 2 hts gX2_settlePath_X10_contains_n154 rfl rfl rfl hK.2.2.2.2.2.2.2.2.2.2.2.2.2.1 (hts _ (wm 23 rfl)) (by decide +kernel) ⟨Nat.le_of_ble_eq_true rfl, Nat.le_of_ble_eq_true rfl⟩, (hts _ (wm 25 rfl)), trivial⟩ (xpreS hK hW) rfl rfl hl.1 rfl (lv_room (Nat.le_of_ble_eq_true rfl)) dX2_settlePath_89 ⟨Nat.le_of_ble_eq_true rfl, Nat.le_of_ble_eq_true rfl⟩) hW (fun H locs hW => ?_)
          refine lv_if_ne (tgt := 106) hx hb dX2_settlePath_92 (by decide) (fun c1 => ?_) (fun c1 => ?_)
          · have hr := br_n c1 hr
            refine lv_aload_n hx hb dX2_settlePath_106 rfl (lv_at hl 1 rfl) ?_
            refine lv_iconst (v := (0 : Int32)) hx hb dX2_settlePath_107 (by decide) ?_
            obtain ⟨M_10, eM_10, hr⟩ := lt1_e hr
            refine p3_12 hx hb hts hi3 hown hK hW (k := a1) ha1 (hts _ (wm 8 rfl)) dX2_settlePath_108 (fun H locs hW => ?_)
            rw [← eM_10] at hW
            refine lv_aload_n hx hb dX2_settlePath_111 rfl (lv_at hl 1 rfl) ?_
            refine lv_iconst (v := (1 : Int32)) hx hb dX2_settlePath_112 (by decide) ?_
            obtain ⟨M_11, eM_11, hr⟩ := lt1_e hr
            refine p3_5 hx hb hts hi3 hown hK hW (k := a1) ha1 (hts _ (wm 9 rfl)) (by decide) dX2_settlePath_113 (fun H locs hW => ?_)
            rw [← eM_11] at hW
            refine lv_aload_n hx hb dX2_settlePath_116 rfl (lv_at hl 1 rfl) ?_
            refine lv_aload_n hx hb dX2_settlePath_117 rfl (lv_at hl 1 rfl) ?_
            refine g3_15 hx hb hts hi3 hown hK hW (k := a1) ha1 (hts _ (wm 10 rfl)) dX2_settlePath_118 ?_
            refine g7_1 hx hb hts hi7 hown hK hW (k := (a1 + 1)) (ks_3s ha1) (hts _ (wm 11 rfl)) dX2_settlePath_121 ?_
            refine lv_aload_n hx hb dX2_settlePath_124 rfl (lv_at hl 0 rfl) ?_
            refine g2_1 hx hb hts hi2 hown hK hW (k := 232) rfl (hts _ (wm 12 rfl)) dX2_settlePath_125 ?_
            refine lv_iload_n hx hb dX2_settlePath_128 rfl (lv_at hl 2 rfl) ?_
            obtain ⟨hn129, hr⟩ := chk_e hr
            refine xiald hx hb hK hW (k := 234) (t := 20) rfl (by decide) (by decide) rfl (n := 4) hn129 (jx := (ix x2)) rfl dX2_settlePath_129 ?_
            refine lv_aload_n hx hb dX2_settlePath_130 rfl (lv_at hl 1 rfl) ?_
            refine g3_3 hx hb hts hi3 hown hK hW (k := a1) ha1 (hts _ (wm 13 rfl)) dX2_settlePath_131 ?_
            refine lv_imul hx hb dX2_settlePath_134 ?_
            refine lv_isub hx hb dX2_settlePath_135 ?_
            obtain ⟨M_12, eM_12, hr⟩ := lt1_e hr
            refine p3_6 hx hb hts hi3 hown hK hW (k := a1) ha1 (hts _ (wm 14 rfl)) dX2_settlePath_136 (fun H locs hW => ?_)
            rw [← eM_12] at hW
            refine lv_aload_n hx hb dX2_settlePath_139 rfl (lv_at hl 1 rfl) ?_
            refine lv_aload_n hx hb dX2_settlePath_140 rfl (lv_at hl 1 rfl) ?_
            refine g3_15 hx hb hts hi3 hown hK hW (k := a1) ha1 (hts _ (wm 10 rfl)) dX2_settlePath_141 ?_
            refine g7_2 hx hb hts hi7 hown hK hW (k := (a1 + 1)) (ks_3s ha1) (hts _ (wm 15 rfl)) dX2_settlePath_144 ?_
            refine lv_aload_n hx hb dX2_settlePath_147 rfl (lv_at hl 0 rfl) ?_
            refine g2_2 hx hb hts hi2 hown hK hW (k := 232) rfl (hts _ (wm 16 rfl)) dX2_settlePath_148 ?_
            refine lv_iload_n hx hb dX2_settlePath_151 rfl (lv_at hl 2 rfl) ?_
            obtain ⟨hn152, hr⟩ := chk_e hr
            refine xiald hx hb hK hW (k := 235) (t := 20) rfl (by decide) (by decide) rfl (n := 4) hn152 (jx := (ix x2)) rfl dX2_settlePath_152 ?_
            refine lv_aload_n hx hb dX2_settlePath_153 rfl (lv_at hl 1 rfl) ?_
            refine g3_3 hx hb hts hi3 hown hK hW (k := a1) ha1 (hts _ (wm 13 rfl)) dX2_settlePath_154 ?_
            refine lv_imul hx hb dX2_settlePath_157 ?_
            refine lv_isub hx hb dX2_settlePath_158 ?_
            obtain ⟨M_13, eM_13, hr⟩ := lt1_e hr
            refine p3_7 hx hb hts hi3 hown hK hW (k := a1) ha1 (hts _ (wm 17 rfl)) dX2_settlePath_159 (fun H locs hW => ?_)
            rw [← eM_13] at hW
            refine lv_aload_n hx hb dX2_settlePath_162 rfl (lv_at hl 0 rfl) ?_
            refine g2_9 hx hb hts hi2 hown hK hW (k := 232) rfl (hts _ (wm 18 rfl)) dX2_settlePath_163 ?_
            refine lv_if_eq (tgt := 203) hx hb dX2_settlePath_166 (by decide) (fun c1 => ?_) (fun c1 => ?_)
            · have hr := br_p c1 hr
              rw [← Option.some.inj hr]
              exact xvret hx hb hr0 hlocks hW adR_rf dX2_settlePath_203
            · have hr := br_n c1 hr
              refine lv_aload_n hx hb dX2_settlePath_169 rfl (lv_at hl 1 rfl) ?_
              refine lv_iconst (v := (1 : Int32)) hx hb dX2_settlePath_170 (by decide) ?_
              obtain ⟨M_14, eM_14, hr⟩ := lt1_e hr
              refine p3_8 hx hb hts hi3 hown hK hW (k := a1) ha1 (hts _ (wm 19 rfl)) (by decide) dX2_settlePath_171 (fun H locs hW => ?_)
              rw [← eM_14] at hW
              refine lv_aload_n hx hb dX2_settlePath_174 rfl (lv_at hl 1 rfl) ?_
              refine lv_aload_n hx hb dX2_settlePath_175 rfl (lv_at hl 0 rfl) ?_
              refine g2_4 hx hb hts hi2 hown hK hW (k := 232) rfl (hts _ (wm 3 rfl)) dX2_settlePath_176 ?_
              refine lv_iload_n hx hb dX2_settlePath_179 rfl (lv_at hl 2 rfl) ?_
              obtain ⟨hn180, hr⟩ := chk_e hr
              refine xiald hx hb hK hW (k := 237) (t := 20) rfl (by decide) (by decide) rfl (n := 4) hn180 (jx := (ix x2)) rfl dX2_settlePath_180 ?_
              refine lv_i2l hx hb dX2_settlePath_181 rfl ?_
              refine lv_ldc2 (v := (1000 : Int64)) hx hb hown (hts _ (wm 20 rfl)) dX2_settlePath_182 ?_
              refine lv_lmul hx hb dX2_settlePath_185 ?_
              refine lv_aload_n hx hb dX2_settlePath_186 rfl (lv_at hl 0 rfl) ?_
              refine g2_9 hx hb hts hi2 hown hK hW (k := 232) rfl (hts _ (wm 18 rfl)) dX2_settlePath_187 ?_
              refine lv_i2l hx hb dX2_settlePath_190 rfl ?_
              obtain ⟨r_15, hc191, hr⟩ := ob1_e hr
              refine xk_l (va_runSN (As := [.long ((Int32.toInt64 (gI M_14 237 (ix x2))) * (1000 : Int64)), .long (Int32.toInt64 (gI M_14 232 9))]) (rest := [.ref (ad a1)]) ⟨hx, hb, hml, hown, hts⟩ (c_X10_quotient l D cA ad M_14 ((Int32.toInt64 (gI M_14 237 (ix x2))) * (1000 : Int64)) (Int32.toInt64 (gI M_14 232 9)) hc191) ⟨va_cnB 2 hts gX2_settlePath_X10_quotient_n164 rfl rfl rfl hK.2.2.2.2.2.2.2.2.2.2.2.2.2.2.1 (hts _ (wm 23 rfl)) (by decide +kernel) ⟨Nat.le_of_ble_eq_true rfl, Nat.le_of_ble_eq_true rfl⟩, (hts _ (wm 27 rfl)), trivial⟩ (xpreS hK hW) rfl rfl hl.1 rfl (lv_room (Nat.le_of_ble_eq_true rfl)) dX2_settlePath_191 ⟨Nat.le_of_ble_eq_true rfl, Nat.le_of_ble_eq_true rfl⟩) hW (fun H locs hW => ?_)
              refine lv_sipush (v := (5000 : Int32)) hx hb dX2_settlePath_194 (by decide) ?_
              obtain ⟨r_16, hc197, hr⟩ := ob1_e hr
              refine xk_i (va_runSN (As := [.long r_15, .int (5000 : Int32)]) (rest := [.ref (ad a1)]) ⟨hx, hb, hml, hown, hts⟩ (c_X10_limited l D cA ad M_14 r_15 (5000 : Int32) hc197) ⟨va_cnB 2 hts gX2_settlePath_X10_limited_n216 rfl rfl rfl hK.2.2.2.2.2.2.2.2.2.2.2.2.2.2.2.2.2.2.2.1 (hts _ (wm 23 rfl)) (by decide +kernel) ⟨Nat.le_of_ble_eq_true rfl, Nat.le_of_ble_eq_true rfl⟩, (hts _ (wm 29 rfl)), trivial⟩ (xpreS hK hW) rfl rfl hl.1 rfl (lv_room (Nat.le_of_ble_eq_true rfl)) dX2_settlePath_197 ⟨Nat.le_of_ble_eq_true rfl, Nat.le_of_ble_eq_true rfl⟩) hW (fun H locs hW => ?_)
              obtain ⟨M_17, eM_17, hr⟩ := lt1_e hr
              refine p3_9 hx hb hts hi3 hown hK hW (k := a1) ha1 (hts _ (wm 21 rfl)) dX2_settlePath_200 (fun H locs hW => ?_)
              rw [← eM_17] at hW
              rw [← Option.some.inj hr]
              exact xvret hx hb hr0 hlocks hW adR_rf dX2_settlePath_203
          · have hr := br_p c1 hr
            refine lv_aload_n hx hb dX2_settlePath_95 rfl (lv_at hl 1 rfl) ?_
            refine lv_dup hx hb dX2_settlePath_96 rfl ?_
            refine g3_12 hx hb hts hi3 hown hK hW (k := a1) ha1 (hts _ (wm 8 rfl)) dX2_settlePath_97 ?_
            refine lv_iconst (v := (1 : Int32)) hx hb dX2_settlePath_100 (by decide) ?_
            refine lv_iadd hx hb dX2_settlePath_101 ?_
            obtain ⟨M_18, eM_18, hr⟩ := lt1_e hr
            refine p3_12 hx hb hts hi3 hown hK hW (k := a1) ha1 (hts _ (wm 8 rfl)) dX2_settlePath_102 (fun H locs hW => ?_)
            rw [← eM_18] at hW
            rw [← Option.some.inj hr]
            exact xvret hx hb hr0 hlocks hW adR_rf dX2_settlePath_105
        clear hr3
        refine lv_icmp_ne (tgt := 76) hx hb dX2_settlePath_69 (by decide) (fun c1 => ?_) (fun c1 => ?_)
        · have hr := br_n c1 hr
          refine lv_iconst (v := (0 : Int32)) hx hb dX2_settlePath_76 (by decide) ?_
          have e1 := Option.some.inj hr
          subst e1
          exact hj77_6 _ _ _ hW (lv_sub hl [0, 1, 2] rfl)
        · have hr := br_p c1 hr
          refine lv_iconst (v := (1 : Int32)) hx hb dX2_settlePath_72 (by decide) ?_
          refine lv_goto (tgt := 77) hx hb dX2_settlePath_73 (by decide) ?_
          have e1 := Option.some.inj hr
          subst e1
          exact hj77_6 _ _ _ hW (lv_sub hl [0, 1, 2] rfl)
      clear hr3
      refine lv_icmp_ne (tgt := 49) hx hb dX2_settlePath_42 (by decide) (fun c1 => ?_) (fun c1 => ?_)
      · have hr := br_n c1 hr
        refine lv_iconst (v := (0 : Int32)) hx hb dX2_settlePath_49 (by decide) ?_
        have e1 := Option.some.inj hr
        subst e1
        exact hj50_3 _ _ _ hW (lv_sub hl [0, 1, 2] rfl)
      · have hr := br_p c1 hr
        refine lv_iconst (v := (1 : Int32)) hx hb dX2_settlePath_45 (by decide) ?_
        refine lv_goto (tgt := 50) hx hb dX2_settlePath_46 (by decide) ?_
        have e1 := Option.some.inj hr
        subst e1
        exact hj50_3 _ _ _ hW (lv_sub hl [0, 1, 2] rfl)
    · have hr := br_n c1 hr
      rw [← Option.some.inj hr]
      exact xvret hx hb hr0 hlocks hW adR_rf dX2_settlePath_9

theorem adR_piR {ad : Nat → Nat} : adR true true ad (fun k => ad (piR k)) := by
  refine ⟨fun k hk => ?_, fun k hk => ⟨piR k, ?_, rfl⟩⟩
  · have e : piR k = k := by
      unfold stb at hk
      unfold piR
      simp at hk
      rw [if_neg (by omega), if_neg (by omega)]
    exact congrArg ad e
  · show piR k < 238
    have hk : k < 238 := hk
    unfold piR
    split
    · omega
    · split <;> omega
set_option maxHeartbeats 4000000 in
set_option maxRecDepth 100000 in
theorem c_X6_startLatest (l : Launch) (D : va_G) (cA : Nat → ClassId) (ad : Nat → Nat) (M : Mm) {M' : Mm} (hr : f_X6_startLatest M = some M') : Met l yX6_startLatest wsX6_startLatest ({ frames := 1, cells := 0, slots := 0, locals := 30 }) (PcX D true cA ad M [.ref (ad 14)]) (QqX true D true cA ad (some 16) M') 0 0 (AX true ad) := by
  refine Met.ofW (cc := cX6_startLatest) (maxL := 3) (ret := some (.object "TransitMeter$Round")) (by decide) rfl ?_
  intro p e s m args below meth c s₁ B hml hv
  obtain ⟨rfl, hP0, hK⟩ := hv
  have hx := B.exec
  have hb := B.bytes
  have hr0 := B.returns
  have hts := atoms_spec (ws := wsX6_startLatest) B.pre
  have hown : s.vm.findClass RX6 = some m.cls := findClass_of_methodNamed B.named
  have hlocks := B.notSynchronized
  have hi6 : ∀ w ∈ wsX60, w ∈ wsX6_startLatest := fun w h => List.mem_cons_of_mem _ (List.mem_append_right _ h)
  have hX := XS_of (x := 15) (by decide) (by decide) (xstart hP0)
  have hl := lv_entry ([.ref (ad 14)]) (n := 3) (Nat.le_of_ble_eq_true rfl)
  rw [lg_entry_eq]
  generalize (lg_sl ([.ref (ad 14)]) ++ List.replicate (3 - (lg_sl ([.ref (ad 14)])).length) Slot.unset).toArray = ls at hl ⊢
  have hl : lv_has ls 3 [(0, .ref (ad 14))] := hl
  clear hP0
  unfold f_X6_startLatest at hr
  have hM' := Option.some.inj hr
  have k5 : ∀ i, i < 12 → KS true (16 + i) = 5 ∧ 16 + i ≠ 15 := by decide +kernel
  have hL : ∀ (i : Nat) (f : Nat → Option Nat) (H : Heap) (locs : List Loc) (ls : Array Slot), i ≤ 11 → (∀ j, f j = if j < 12 then (if j ≤ i then some (ad (16 + j)) else some (ad (15 + j))) else none) → Xs D cA ad M 15 f (AX true ad) s.heap H locs → lv_has ls 3 [(2, .int (nI i)), (1, .ref (ad 27)), (0, .ref (ad 14))] → W p l e (headSpec wsX6_startLatest { frames := 1, cells := 0, slots := 0, locals := 30 }).room s m ([.ref (ad 14)] : List Value).toArray below meth c H locs 0 0 (MQ below (QqX true D true cA ad (some 16) M') ([.ref (ad 14)] : List Value).toArray s 0 0 (AX true ad)) (F0 m 11 ls []) := by
    intro i
    induction i with
    | zero =>
      intro f H locs ls _ hf hX hl
      refine lv_iload_n hx hb dX6_startLatest_11 rfl (lv_at hl 0 rfl) ?_
      refine lv_if_le (tgt := 35) hx hb dX6_startLatest_12 (by decide) (fun _ => ?_) (fun c1 => absurd (by decide) c1)
      refine lv_aload_n hx hb dX6_startLatest_35 rfl (lv_at hl 2 rfl) ?_
      refine xsget hx hb (T := TX6) (N := 2) (C := RX6) hts hi6 hown hK hX (k := 14) (by decide) rfl (by decide) rfl 0 (by decide) (hts _ (wm 1 rfl)) (v := .ref (ad 15)) rfl dX6_startLatest_36 ?_
      refine lv_iconst (v := (0 : Int32)) hx hb dX6_startLatest_39 (by decide) ?_
      refine lv_aload_n hx hb dX6_startLatest_40 rfl (lv_at hl 1 rfl) ?_
      refine xsast hx hb hK hX (by decide) (t0 := 4) (ci := 5) (r := (RX5, TX5, 6)) rfl rfl (y := 27) (by decide) rfl (by decide) (by decide) dX6_startLatest_41 (fun H locs hX => ?_)
      have hW := relabel (M' := shR M) piR (by decide) (by decide) (by decide +kernel) (by decide +kernel) rfl (fun j => by
        show va_up f (ix 0) (some (ad 27)) j = if j < 12 then some (ad (piR (15 + 1 + j))) else none
        have z : ix 0 = 0 := by decide
        rw [z]
        unfold va_up
        by_cases h0 : j = 0
        · subst h0
          rfl
        · rw [if_neg h0, hf]
          by_cases h12 : j < 12
          · rw [if_pos h12, if_pos h12, if_neg (by omega)]
            unfold piR
            rw [if_neg (by omega), if_pos (by omega)]
            congr 2
            omega
          · rw [if_neg h12, if_neg h12]) (fun k => ⟨rfl, rfl⟩) hX
      have had := adR_piR (ad := ad)
      have e27 : ad 27 = (fun k => ad (piR k)) 16 := rfl
      have e14 : ad 14 = (fun k => ad (piR k)) 14 := rfl
      rw [e27, e14] at hl
      generalize (fun k => ad (piR k)) = ad2 at hW had hl
      refine lv_aload_n hx hb dX6_startLatest_42 rfl (lv_at hl 2 rfl) ?_
      refine lv_aload_n hx hb dX6_startLatest_43 rfl (lv_at hl 2 rfl) ?_
      refine g6_1 hx hb hts hi6 hown hK hW (k := 14) rfl (hts _ (wm 2 rfl)) dX6_startLatest_44 ?_
      refine lv_iconst (v := (1 : Int32)) hx hb dX6_startLatest_47 (by decide) ?_
      refine lv_iadd hx hb dX6_startLatest_48 ?_
      refine lv_bipush (v := (12 : Int32)) hx hb dX6_startLatest_49 (by decide) ?_
      refine va_mmin hx hb (hml.trans hl.1.symm) hown (hts _ (wm 3 rfl)) (hts _ (wm 4 rfl)) (hts _ (wm 5 rfl)) (hts _ (wm 6 rfl)) (Nat.le_of_ble_eq_true rfl) (Nat.le_of_ble_eq_true rfl) (Nat.zero_le _) (Nat.zero_le _) dX6_startLatest_51 ?_
      refine p6_1 hx hb hts hi6 hown hK hW (k := 14) rfl (hts _ (wm 2 rfl)) dX6_startLatest_54 (fun H locs hW => ?_)
      refine lv_aload_n hx hb dX6_startLatest_57 rfl (lv_at hl 1 rfl) ?_
      rw [← hM']
      exact xaret hx hb hr0 hlocks hW had dX6_startLatest_58
    | succ i ih =>
      intro f H locs ls hi hf hX hl
      refine lv_iload_n hx hb dX6_startLatest_11 rfl (lv_at hl 0 rfl) ?_
      refine lv_if_le (tgt := 35) hx hb dX6_startLatest_12 (by decide) (fun c1 => absurd c1 (nI_nle (by omega) (by omega))) (fun _ => ?_)
      refine lv_aload_n hx hb dX6_startLatest_15 rfl (lv_at hl 2 rfl) ?_
      refine xsget hx hb (T := TX6) (N := 2) (C := RX6) hts hi6 hown hK hX (k := 14) (by decide) rfl (by decide) rfl 0 (by decide) (hts _ (wm 1 rfl)) (v := .ref (ad 15)) rfl dX6_startLatest_16 ?_
      refine lv_iload_n hx hb dX6_startLatest_19 rfl (lv_at hl 0 rfl) ?_
      refine lv_aload_n hx hb dX6_startLatest_20 rfl (lv_at hl 2 rfl) ?_
      refine xsget hx hb (T := TX6) (N := 2) (C := RX6) hts hi6 hown hK hX (k := 14) (by decide) rfl (by decide) rfl 0 (by decide) (hts _ (wm 1 rfl)) (v := .ref (ad 15)) rfl dX6_startLatest_21 ?_
      refine lv_iload_n hx hb dX6_startLatest_24 rfl (lv_at hl 0 rfl) ?_
      refine lv_iconst (v := (1 : Int32)) hx hb dX6_startLatest_25 (by decide) ?_
      refine lv_isub hx hb dX6_startLatest_26 ?_
      rw [nI_pred]
      refine xsald hx hb hK hX (by decide) (t0 := 4) (C := "TransitMeter$Round") rfl (i := nI i) (inb_nI (N := 12) (by omega) (by decide)) (y := ad (16 + i)) (by rw [ix_nI (by omega), hf, if_pos (by omega), if_pos (by omega)]) dX6_startLatest_27 ?_
      refine xsast hx hb hK hX (by decide) (t0 := 4) (ci := 5) (r := (RX5, TX5, 6)) rfl rfl (y := 16 + i) (k5 i (by omega)).2 (k5 i (by omega)).1 (by decide) (inb_nI (N := 12) (by omega) (by decide)) dX6_startLatest_28 (fun H locs hX => ?_)
      refine lv_iinc (v := nI i) (lv' := [(2, .int (nI i)), (1, .ref (ad 27)), (0, .ref (ad 14))]) hx hb dX6_startLatest_29 hl (k := 0) rfl (pk_m1 i) (by decide) rfl (fun ls hl => ?_)
      refine lv_goto (tgt := 11) hx hb dX6_startLatest_32 (by decide) ?_
      refine ih _ _ _ _ (by omega) (fun j => ?_) hX hl
      rw [ix_nI (by omega)]
      unfold va_up
      by_cases h1 : j = i + 1
      · subst h1
        rw [if_pos rfl, if_pos (by omega), if_neg (by omega)]
        congr 2
        omega
      · rw [if_neg h1, hf]
        by_cases h12 : j < 12
        · rw [if_pos h12, if_pos h12]
          by_cases h2 : j ≤ i
          · rw [if_pos (by omega), if_pos h2]
          · rw [if_neg (by omega), if_neg h2]
        · rw [if_neg h12, if_neg h12]
  refine lv_aload_n hx hb dX6_startLatest_0 rfl (lv_at hl 0 rfl) ?_
  refine xsget hx hb (T := TX6) (N := 2) (C := RX6) hts hi6 hown hK hX (k := 14) (by decide) rfl (by decide) rfl 0 (by decide) (hts _ (wm 1 rfl)) (v := .ref (ad 15)) rfl dX6_startLatest_1 ?_
  refine lv_bipush (v := (11 : Int32)) hx hb dX6_startLatest_4 (by decide) ?_
  refine xsald hx hb hK hX (by decide) (t0 := 4) (C := "TransitMeter$Round") rfl (i := 11) (by decide) (y := ad 27) rfl dX6_startLatest_6 ?_
  refine lv_astore_n (lv' := [(1, .ref (ad 27)), (0, .ref (ad 14))]) hx hb dX6_startLatest_7 rfl hl (by decide) rfl (fun ls hl => ?_)
  refine lv_bipush (v := (11 : Int32)) hx hb dX6_startLatest_8 (by decide) ?_
  refine lv_istore_n (lv' := [(2, .int 11), (1, .ref (ad 27)), (0, .ref (ad 14))]) hx hb dX6_startLatest_10 rfl hl (by decide) rfl (fun ls hl => ?_)
  exact hL 11 _ _ _ _ (Nat.le_refl _) (fun j => by
    show (if j < 12 then some (ad (15 + 1 + j)) else none) = _
    by_cases h12 : j < 12
    · rw [if_pos h12, if_pos h12, if_pos (by omega)]
    · rw [if_neg h12, if_neg h12]) hX hl

set_option maxHeartbeats 4000000 in
set_option maxRecDepth 100000 in
theorem c_X2_fillIn (l : Launch) (D : va_G) (cA : Nat → ClassId) (ad : Nat → Nat) (M : Mm) {M' : Mm} (hr : f_X2_fillIn M = some M') : Met l yX2_fillIn wsX2_fillIn ({ frames := 0, cells := 0, slots := 0, locals := 0 }) (PcX D true cA ad M [.ref (ad 232), .ref (ad 16)]) (QvX false D true cA ad M') 0 0 (AX true ad) := by
  refine Met.ofW (cc := cX2_fillIn) (maxL := 2) (ret := none) (by decide) rfl ?_
  intro p e s m args below meth c s₁ B hml hv
  obtain ⟨hav, hP0, hK⟩ := hv
  have hx := B.exec
  have hb := B.bytes
  have hr0 := B.returns
  have hts := atoms_spec (ws := wsX2_fillIn) B.pre
  have hown : s.vm.findClass RX2 = some m.cls := findClass_of_methodNamed B.named
  have hlocks := B.notSynchronized
  have hW := xstart hP0
  have hi2 : ∀ w ∈ wsX20, w ∈ wsX2_fillIn := fun w h => List.mem_cons_of_mem _ (List.mem_append_left _ (List.mem_append_right _ h))
  have hi5 : ∀ w ∈ wsX50, w ∈ wsX2_fillIn := fun w h => List.mem_cons_of_mem _ (List.mem_append_right _ h)
  have hl := lv_entry ([.ref (ad 232), .ref (ad 16)]) (n := 2) (Nat.le_of_ble_eq_true rfl)
  have hef := lg_entry_eq m ([.ref (ad 232), .ref (ad 16)]) 2
  rw [← hav] at hef
  rw [hef]
  clear hef
  generalize (lg_sl ([.ref (ad 232), .ref (ad 16)]) ++ List.replicate (2 - (lg_sl ([.ref (ad 232), .ref (ad 16)])).length) Slot.unset).toArray = ls at hl ⊢
  have hl : lv_has ls 2 [(0, .ref (ad 232)), (1, .ref (ad 16))] := hl
  clear hP0
  unfold f_X2_fillIn at hr
  refine lv_aload_n hx hb dX2_fillIn_0 rfl (lv_at hl 1 rfl) ?_
  refine lv_aload_n hx hb dX2_fillIn_1 rfl (lv_at hl 0 rfl) ?_
  refine g2_10 hx hb hts hi2 hown hK hW (k := 232) rfl (hts _ (wm 1 rfl)) dX2_fillIn_2 ?_
  obtain ⟨M_1, eM_1, hr⟩ := lt1_e hr
  refine p5_0 hx hb hts hi5 hown hK hW (k := 16) rfl (hts _ (wm 2 rfl)) dX2_fillIn_5 (fun H locs hW => ?_)
  rw [← eM_1] at hW
  refine lv_aload_n hx hb dX2_fillIn_8 rfl (lv_at hl 1 rfl) ?_
  refine lv_aload_n hx hb dX2_fillIn_9 rfl (lv_at hl 0 rfl) ?_
  refine g2_9 hx hb hts hi2 hown hK hW (k := 232) rfl (hts _ (wm 3 rfl)) dX2_fillIn_10 ?_
  obtain ⟨M_2, eM_2, hr⟩ := lt1_e hr
  refine p5_1 hx hb hts hi5 hown hK hW (k := 16) rfl (hts _ (wm 4 rfl)) dX2_fillIn_13 (fun H locs hW => ?_)
  rw [← eM_2] at hW
  refine lv_aload_n hx hb dX2_fillIn_16 rfl (lv_at hl 1 rfl) ?_
  refine lv_aload_n hx hb dX2_fillIn_17 rfl (lv_at hl 0 rfl) ?_
  refine g2_6 hx hb hts hi2 hown hK hW (k := 232) rfl (hts _ (wm 5 rfl)) dX2_fillIn_18 ?_
  obtain ⟨M_3, eM_3, hr⟩ := lt1_e hr
  refine p5_2 hx hb hts hi5 hown hK hW (k := 16) rfl (hts _ (wm 6 rfl)) dX2_fillIn_21 (fun H locs hW => ?_)
  rw [← eM_3] at hW
  refine lv_aload_n hx hb dX2_fillIn_24 rfl (lv_at hl 1 rfl) ?_
  refine lv_aload_n hx hb dX2_fillIn_25 rfl (lv_at hl 0 rfl) ?_
  refine g2_7 hx hb hts hi2 hown hK hW (k := 232) rfl (hts _ (wm 7 rfl)) dX2_fillIn_26 ?_
  obtain ⟨M_4, eM_4, hr⟩ := lt1_e hr
  refine p5_3 hx hb hts hi5 hown hK hW (k := 16) rfl (hts _ (wm 8 rfl)) dX2_fillIn_29 (fun H locs hW => ?_)
  rw [← eM_4] at hW
  refine lv_aload_n hx hb dX2_fillIn_32 rfl (lv_at hl 1 rfl) ?_
  refine lv_aload_n hx hb dX2_fillIn_33 rfl (lv_at hl 0 rfl) ?_
  refine g2_8 hx hb hts hi2 hown hK hW (k := 232) rfl (hts _ (wm 9 rfl)) dX2_fillIn_34 ?_
  obtain ⟨M_5, eM_5, hr⟩ := lt1_e hr
  refine p5_4 hx hb hts hi5 hown hK hW (k := 16) rfl (hts _ (wm 10 rfl)) dX2_fillIn_37 (fun H locs hW => ?_)
  rw [← eM_5] at hW
  refine lv_aload_n hx hb dX2_fillIn_40 rfl (lv_at hl 1 rfl) ?_
  refine lv_aload_n hx hb dX2_fillIn_41 rfl (lv_at hl 0 rfl) ?_
  refine g2_5 hx hb hts hi2 hown hK hW (k := 232) rfl (hts _ (wm 11 rfl)) dX2_fillIn_42 ?_
  obtain ⟨M_6, eM_6, hr⟩ := lt1_e hr
  refine p5_5 hx hb hts hi5 hown hK hW (k := 16) rfl (hts _ (wm 12 rfl)) dX2_fillIn_45 (fun H locs hW => ?_)
  rw [← eM_6] at hW
  rw [← Option.some.inj hr]
  exact xvret hx hb hr0 hlocks hW adR_rf dX2_fillIn_48

set_option maxHeartbeats 4000000 in
set_option maxRecDepth 100000 in
theorem c_X8_countVolume (l : Launch) (D : va_G) (cA : Nat → ClassId) (ad : Nat → Nat) (M : Mm) (x1 : Int32) {M' : Mm} (hr : f_X8_countVolume x1 M = some M') : Met l yX8_countVolume wsX8_countVolume ({ frames := 0, cells := 0, slots := 0, locals := 0 }) (PcX D true cA ad M [.ref (ad 0), .int x1]) (QvX false D true cA ad M') 0 0 (AX true ad) := by
  refine Met.ofW (cc := cX8_countVolume) (maxL := 4) (ret := none) (by decide) rfl ?_
  intro p e s m args below meth c s₁ B hml hv
  obtain ⟨hav, hP0, hK⟩ := hv
  have hx := B.exec
  have hb := B.bytes
  have hr0 := B.returns
  have hts := atoms_spec (ws := wsX8_countVolume) B.pre
  have hown : s.vm.findClass RX8 = some m.cls := findClass_of_methodNamed B.named
  have hlocks := B.notSynchronized
  have hW := xstart hP0
  have hi8 : ∀ w ∈ wsX80, w ∈ wsX8_countVolume := fun w h => List.mem_cons_of_mem _ (List.mem_append_right _ h)
  have hl := lv_entry ([.ref (ad 0), .int x1]) (n := 4) (Nat.le_of_ble_eq_true rfl)
  have hef := lg_entry_eq m ([.ref (ad 0), .int x1]) 4
  rw [← hav] at hef
  rw [hef]
  clear hef
  generalize (lg_sl ([.ref (ad 0), .int x1]) ++ List.replicate (4 - (lg_sl ([.ref (ad 0), .int x1])).length) Slot.unset).toArray = ls at hl ⊢
  have hl : lv_has ls 4 [(0, .ref (ad 0)), (1, .int x1)] := hl
  clear hP0
  unfold f_X8_countVolume at hr
  refine lv_iload_n hx hb dX8_countVolume_0 rfl (lv_at hl 1 rfl) ?_
  refine lv_i2l hx hb dX8_countVolume_1 rfl ?_
  refine lv_aload_n hx hb dX8_countVolume_2 rfl (lv_at hl 0 rfl) ?_
  refine g8_3 hx hb hts hi8 hown hK hW (k := 0) rfl (hts _ (wm 1 rfl)) dX8_countVolume_3 ?_
  refine lv_iconst (v := (3 : Int32)) hx hb dX8_countVolume_6 (by decide) ?_
  refine xiald hx hb hK hW (k := 13) (t := 21) rfl (by decide) (by decide) rfl (n := 5) (by decide) (jx := 3) (by decide) dX8_countVolume_7 ?_
  refine lv_i2l hx hb dX8_countVolume_8 rfl ?_
  refine lv_lmul hx hb dX8_countVolume_9 ?_
  refine lv_aload_n hx hb dX8_countVolume_10 rfl (lv_at hl 0 rfl) ?_
  refine g8_3 hx hb hts hi8 hown hK hW (k := 0) rfl (hts _ (wm 1 rfl)) dX8_countVolume_11 ?_
  refine lv_iconst (v := (4 : Int32)) hx hb dX8_countVolume_14 (by decide) ?_
  refine xiald hx hb hK hW (k := 13) (t := 21) rfl (by decide) (by decide) rfl (n := 5) (by decide) (jx := 4) (by decide) dX8_countVolume_15 ?_
  refine lv_i2l hx hb dX8_countVolume_16 rfl ?_
  refine lv_lmul hx hb dX8_countVolume_17 ?_
  refine lv_ldc2 (v := (1000 : Int64)) hx hb hown (hts _ (wm 2 rfl)) dX8_countVolume_18 ?_
  refine lv_ldiv hx hb dX8_countVolume_21 (by decide) ?_
  obtain ⟨x2_1, ex2_1, hr⟩ := lt1_e hr
  rw [← ex2_1]
  refine lv_lstore_n (lv' := [(2, .long x2_1), (0, .ref (ad 0)), (1, .int x1)]) hx hb dX8_countVolume_22 rfl hl (by decide) rfl (fun ls hl => ?_)
  refine lv_lload_n hx hb dX8_countVolume_23 rfl (lv_at hl 0 rfl) ?_
  refine lv_lconst (v := (0 : Int64)) hx hb dX8_countVolume_24 (by decide) ?_
  refine xlc_le (tgt := 42) hx hb dX8_countVolume_25 dX8_countVolume_26 (by decide) (fun c1 => ?_) (fun c1 => ?_)
  · have hr := br_p c1 hr
    refine lv_aload_n hx hb dX8_countVolume_42 rfl (lv_at hl 1 rfl) ?_
    refine lv_dup hx hb dX8_countVolume_43 rfl ?_
    refine g8_9 hx hb hts hi8 hown hK hW (k := 0) rfl (hts _ (wm 4 rfl)) dX8_countVolume_44 ?_
    refine lv_lload_n hx hb dX8_countVolume_47 rfl (lv_at hl 0 rfl) ?_
    refine lv_lsub hx hb dX8_countVolume_48 ?_
    obtain ⟨M_2, eM_2, hr⟩ := lt1_e hr
    refine p8_9 hx hb hts hi8 hown hK hW (k := 0) rfl (hts _ (wm 4 rfl)) dX8_countVolume_49 (fun H locs hW => ?_)
    rw [← eM_2] at hW
    rw [← Option.some.inj hr]
    exact xvret hx hb hr0 hlocks hW adR_rf dX8_countVolume_52
  · have hr := br_n c1 hr
    refine lv_aload_n hx hb dX8_countVolume_29 rfl (lv_at hl 1 rfl) ?_
    refine lv_dup hx hb dX8_countVolume_30 rfl ?_
    refine g8_8 hx hb hts hi8 hown hK hW (k := 0) rfl (hts _ (wm 3 rfl)) dX8_countVolume_31 ?_
    refine lv_lload_n hx hb dX8_countVolume_34 rfl (lv_at hl 0 rfl) ?_
    refine lv_ladd hx hb dX8_countVolume_35 ?_
    obtain ⟨M_3, eM_3, hr⟩ := lt1_e hr
    refine p8_8 hx hb hts hi8 hown hK hW (k := 0) rfl (hts _ (wm 3 rfl)) dX8_countVolume_36 (fun H locs hW => ?_)
    rw [← eM_3] at hW
    refine lv_goto (tgt := 52) hx hb dX8_countVolume_39 (by decide) ?_
    rw [← Option.some.inj hr]
    exact xvret hx hb hr0 hlocks hW adR_rf dX8_countVolume_52

set_option maxHeartbeats 4000000 in
set_option maxRecDepth 100000 in
theorem c_X2_settle (l : Launch) (D : va_G) (cA : Nat → ClassId) (ad : Nat → Nat) (M : Mm) {M' : Mm} (hr : f_X2_settle M = some M') : Met l yX2_settle wsX2_settle ({ frames := 2, cells := 0, slots := 0, locals := 52 }) (PcX D true cA ad M [.ref (ad 232), .ref (ad 0)]) (QvX true D true cA ad M') 0 0 (AX true ad) := by
  refine Met.ofW (cc := cX2_settle) (maxL := 6) (ret := none) (by decide) rfl ?_
  intro p e s m args below meth c s₁ B hml hv
  obtain ⟨hav, hP0, hK⟩ := hv
  have hx := B.exec
  have hb := B.bytes
  have hr0 := B.returns
  have hts := atoms_spec (ws := wsX2_settle) B.pre
  have hown : s.vm.findClass RX2 = some m.cls := findClass_of_methodNamed B.named
  have hlocks := B.notSynchronized
  have hW := xstart hP0
  have hi2 : ∀ w ∈ wsX20, w ∈ wsX2_settle := fun w h => List.mem_cons_of_mem _ (List.mem_append_left _ (List.mem_append_left _ (List.mem_append_right _ h)))
  have hi3 : ∀ w ∈ wsX30, w ∈ wsX2_settle := fun w h => List.mem_cons_of_mem _ (List.mem_append_left _ (List.mem_append_left _ (List.mem_append_left _ (List.mem_append_left _ (List.mem_append_right _ h)))))
  have hi7 : ∀ w ∈ wsX70, w ∈ wsX2_settle := fun w h => List.mem_cons_of_mem _ (List.mem_append_left _ (List.mem_append_left _ (List.mem_append_left _ (List.mem_append_right _ h))))
  have hi8 : ∀ w ∈ wsX80, w ∈ wsX2_settle := fun w h => List.mem_cons_of_mem _ (List.mem_append_left _ (List.mem_append_left _ (List.mem_append_left _ (List.mem_append_left _ (List.mem_append_left _ (List.mem_append_right _ h))))))
  have hl := lv_entry ([.ref (ad 232), .ref (ad 0)]) (n := 6) (Nat.le_of_ble_eq_true rfl)
  have hef := lg_entry_eq m ([.ref (ad 232), .ref (ad 0)]) 6
  rw [← hav] at hef
  rw [hef]
  clear hef
  generalize (lg_sl ([.ref (ad 232), .ref (ad 0)]) ++ List.replicate (6 - (lg_sl ([.ref (ad 232), .ref (ad 0)])).length) Slot.unset).toArray = ls at hl ⊢
  have hl : lv_has ls 6 [(0, .ref (ad 232)), (1, .ref (ad 0))] := hl
  clear hP0
  unfold f_X2_settle at hr
  refine lv_iconst (v := (0 : Int32)) hx hb dX2_settle_0 (by decide) ?_
  refine lv_istore_n (lv' := [(2, .int (0 : Int32)), (0, .ref (ad 232)), (1, .ref (ad 0))]) hx hb dX2_settle_1 rfl hl (by decide) rfl (fun ls hl => ?_)
  have hL2_1 : ∀ (n : Nat) (x2_1 : Int32) (M_2 : Mm) (H : Heap) (locs : List Loc) (ls : Array Slot) (M_3 : Mm), Xw D true cA ad M_2 (AX true ad) s.heap H locs → lv_has ls 6 [(0, .ref (ad 232)), (1, .ref (ad 0)), (2, .int x2_1)] → f_X2_settle_L2 n x2_1 M_2 = some M_3 → (∀ (H : Heap) (locs : List Loc) (ls : Array Slot), Xw D true cA ad M_3 (AX true ad) s.heap H locs → lv_has ls 6 [(0, .ref (ad 232)), (1, .ref (ad 0))] → W p l e (headSpec wsX2_settle { frames := 2, cells := 0, slots := 0, locals := 52 }).room s m args below meth c H locs 0 0 (MQ below (QvX true D true cA ad M') args s 0 0 (AX true ad)) (F0 m 32 ls [])) → W p l e (headSpec wsX2_settle { frames := 2, cells := 0, slots := 0, locals := 52 }).room s m args below meth c H locs 0 0 (MQ below (QvX true D true cA ad M') args s 0 0 (AX true ad)) (F0 m 2 ls []) := by
    intro n
    induction n with
    | zero =>
      intro x2_1 M_2 H locs ls M_3 hW hl hr hk
      exact absurd hr (by simp [f_X2_settle_L2])
    | succ n ih =>
      intro x2_1 M_2 H locs ls M_3 hW hl hr hk
      rw [f_X2_settle_L2] at hr
      refine lv_iload_n hx hb dX2_settle_2 rfl (lv_at hl 2 rfl) ?_
      refine lv_iconst (v := (4 : Int32)) hx hb dX2_settle_3 (by decide) ?_
      refine lv_icmp_ge (tgt := 32) hx hb dX2_settle_4 (by decide) (fun c1 => ?_) (fun c1 => ?_)
      · have hr := br_p c1 hr
        have e1 := Option.some.inj hr
        subst e1
        exact hk _ _ _ hW (lv_sub hl [0, 1] rfl)
      · have hr := br_n c1 hr
        refine lv_iload_n hx hb dX2_settle_7 rfl (lv_at hl 2 rfl) ?_
        refine lv_aload_n hx hb dX2_settle_8 rfl (lv_at hl 1 rfl) ?_
        refine g8_1 hx hb hts hi8 hown hK hW (k := 0) rfl (hts _ (wm 1 rfl)) dX2_settle_9 ?_
        refine lv_icmp_ge (tgt := 32) hx hb dX2_settle_12 (by decide) (fun c1 => ?_) (fun c1 => ?_)
        · have hr := br_p c1 hr
          have e1 := Option.some.inj hr
          subst e1
          exact hk _ _ _ hW (lv_sub hl [0, 1] rfl)
        · have hr := br_n c1 hr
          refine lv_aload_n hx hb dX2_settle_15 rfl (lv_at hl 0 rfl) ?_
          refine lv_aload_n hx hb dX2_settle_16 rfl (lv_at hl 1 rfl) ?_
          refine g8_0 hx hb hts hi8 hown hK hW (k := 0) rfl (hts _ (wm 2 rfl)) dX2_settle_17 ?_
          refine lv_iload_n hx hb dX2_settle_20 rfl (lv_at hl 2 rfl) ?_
          obtain ⟨hn21, hr⟩ := chk_e hr
          refine xaald hx hb hK hW (k := 1) (t := 50) rfl (by decide) (by decide) rfl (t0 := 3) rfl hn21 dX2_settle_21 ?_
          refine lv_iload_n hx hb dX2_settle_22 rfl (lv_at hl 2 rfl) ?_
          obtain ⟨M_4, hc23, hr⟩ := ob1_e hr
          refine xk_v (va_runV (As := [.ref (ad (rid 50 1 (ix x2_1))), .int x2_1]) (rest := []) ⟨hx, hb, hml, hown, hts⟩ (c_X2_settlePath l D cA ad M_2 (rid 50 1 (ix x2_1)) x2_1 (ks_50 (k := 1) rfl hn21) hc23) (cwV 2 hts gX2_settle_X2_settlePath rfl rfl rfl (by decide +kernel) ⟨Nat.le_of_ble_eq_true rfl, Nat.le_of_ble_eq_true rfl⟩) (xpreV hK hW (k := 232) rfl (by decide) rfl) rfl rfl hl.1 rfl (lv_room (Nat.le_of_ble_eq_true rfl)) dX2_settle_23 ⟨Nat.le_of_ble_eq_true rfl, Nat.le_of_ble_eq_true rfl⟩) hW (fun H locs hW => ?_)
          obtain ⟨x2_5, ex2_5, hr⟩ := lt1_e hr
          refine lv_iinc (v := x2_5) (lv' := [(2, .int x2_5), (0, .ref (ad 232)), (1, .ref (ad 0))]) hx hb dX2_settle_26 hl (k := 2) rfl (by rw [ex2_5]; rfl) (by decide) rfl (fun ls hl => ?_)
          refine lv_goto (tgt := 2) hx hb dX2_settle_29 (by decide) ?_
          exact ih x2_5 M_4 _ _ _ _ hW (lv_sub hl [1, 2, 0] rfl) hr hk
  obtain ⟨M_3, hr, hr3⟩ := ob1_e hr
  refine hL2_1 1000 (0 : Int32) M _ _ _ M_3 hW (lv_sub hl [1, 2, 0] rfl) hr (fun H locs ls hW hl => ?_)
  clear hr
  have hr := hr3
  refine lv_aload_n hx hb dX2_settle_32 rfl (lv_at hl 1 rfl) ?_
  refine g8_0 hx hb hts hi8 hown hK hW (k := 0) rfl (hts _ (wm 2 rfl)) dX2_settle_33 ?_
  refine lv_astore_n (lv' := [(2, .ref (ad 1)), (0, .ref (ad 232)), (1, .ref (ad 0))]) hx hb dX2_settle_36 rfl hl (by decide) rfl (fun ls hl => ?_)
  refine lv_aload_n hx hb dX2_settle_37 rfl (lv_at hl 0 rfl) ?_
  refine xalen hx hb hK hW (k := 1) (t := 50) rfl (by decide) (by decide) (v := (4 : Int32)) rfl dX2_settle_38 ?_
  refine lv_istore_n (lv' := [(3, .int (4 : Int32)), (2, .ref (ad 1)), (0, .ref (ad 232)), (1, .ref (ad 0))]) hx hb dX2_settle_39 rfl hl (by decide) rfl (fun ls hl => ?_)
  refine lv_iconst (v := (0 : Int32)) hx hb dX2_settle_40 (by decide) ?_
  refine lv_istore (lv' := [(4, .int (0 : Int32)), (3, .int (4 : Int32)), (2, .ref (ad 1)), (0, .ref (ad 232)), (1, .ref (ad 0))]) hx hb dX2_settle_41 hl (by decide) rfl (fun ls hl => ?_)
  have hL43_2 : ∀ (n : Nat) (x4_6 : Int32) (M_7 : Mm) (H : Heap) (locs : List Loc) (ls : Array Slot) (M_8 : Mm), Xw D true cA ad M_7 (AX true ad) s.heap H locs → lv_has ls 6 [(3, .int (4 : Int32)), (2, .ref (ad 1)), (0, .ref (ad 232)), (1, .ref (ad 0)), (4, .int x4_6)] → f_X2_settle_L43 n x4_6 M_7 = some M_8 → (∀ (H : Heap) (locs : List Loc) (ls : Array Slot), Xw D true cA ad M_8 (AX true ad) s.heap H locs → lv_has ls 6 [(0, .ref (ad 232)), (1, .ref (ad 0))] → W p l e (headSpec wsX2_settle { frames := 2, cells := 0, slots := 0, locals := 52 }).room s m args below meth c H locs 0 0 (MQ below (QvX true D true cA ad M') args s 0 0 (AX true ad)) (F0 m 70 ls [])) → W p l e (headSpec wsX2_settle { frames := 2, cells := 0, slots := 0, locals := 52 }).room s m args below meth c H locs 0 0 (MQ below (QvX true D true cA ad M') args s 0 0 (AX true ad)) (F0 m 43 ls []) := by
    intro n
    induction n with
    | zero =>
      intro x4_6 M_7 H locs ls M_8 hW hl hr hk
      exact absurd hr (by simp [f_X2_settle_L43])
    | succ n ih =>
      intro x4_6 M_7 H locs ls M_8 hW hl hr hk
      rw [f_X2_settle_L43] at hr
      refine lv_iload hx hb dX2_settle_43 (lv_at hl 4 rfl) ?_
      refine lv_iload_n hx hb dX2_settle_45 rfl (lv_at hl 0 rfl) ?_
      refine lv_icmp_ge (tgt := 70) hx hb dX2_settle_46 (by decide) (fun c1 => ?_) (fun c1 => ?_)
      · have hr := br_p c1 hr
        have e1 := Option.some.inj hr
        subst e1
        exact hk _ _ _ hW (lv_sub hl [2, 3] rfl)
      · have hr := br_n c1 hr
        refine lv_aload_n hx hb dX2_settle_49 rfl (lv_at hl 1 rfl) ?_
        refine lv_iload hx hb dX2_settle_50 (lv_at hl 4 rfl) ?_
        obtain ⟨hn52, hr⟩ := chk_e hr
        refine xaald hx hb hK hW (k := 1) (t := 50) rfl (by decide) (by decide) rfl (t0 := 3) rfl hn52 dX2_settle_52 ?_
        refine lv_astore (lv' := [(5, .ref (ad (rid 50 1 (ix x4_6)))), (3, .int (4 : Int32)), (2, .ref (ad 1)), (0, .ref (ad 232)), (1, .ref (ad 0)), (4, .int x4_6)]) hx hb dX2_settle_53 hl (by decide) rfl (fun ls hl => ?_)
        refine lv_aload hx hb dX2_settle_55 (lv_at hl 0 rfl) ?_
        refine g3_15 hx hb hts hi3 hown hK hW (k := (rid 50 1 (ix x4_6))) (ks_50 (k := 1) rfl hn52) (hts _ (wm 3 rfl)) dX2_settle_57 ?_
        refine lv_iconst (v := (0 : Int32)) hx hb dX2_settle_60 (by decide) ?_
        obtain ⟨M_9, eM_9, hr⟩ := lt1_e hr
        refine p7_0 hx hb hts hi7 hown hK hW (k := ((rid 50 1 (ix x4_6)) + 1)) (ks_3s (ks_50 (k := 1) rfl hn52)) (hts _ (wm 4 rfl)) (by decide) dX2_settle_61 (fun H locs hW => ?_)
        rw [← eM_9] at hW
        obtain ⟨x4_10, ex4_10, hr⟩ := lt1_e hr
        refine lv_iinc (v := x4_10) (lv' := [(4, .int x4_10), (5, .ref (ad (rid 50 1 (ix x4_6)))), (3, .int (4 : Int32)), (2, .ref (ad 1)), (0, .ref (ad 232)), (1, .ref (ad 0))]) hx hb dX2_settle_64 hl (k := 5) rfl (by rw [ex4_10]; rfl) (by decide) rfl (fun ls hl => ?_)
        refine lv_goto (tgt := 43) hx hb dX2_settle_67 (by decide) ?_
        exact ih x4_10 M_9 _ _ _ _ hW (lv_sub hl [2, 3, 4, 5, 0] rfl) hr hk
  obtain ⟨M_8, hr, hr3⟩ := ob1_e hr
  refine hL43_2 1000 (0 : Int32) M_3 _ _ _ M_8 hW (lv_sub hl [1, 2, 3, 4, 0] rfl) hr (fun H locs ls hW hl => ?_)
  clear hr
  have hr := hr3
  refine lv_aload_n hx hb dX2_settle_70 rfl (lv_at hl 0 rfl) ?_
  refine lv_aload_n hx hb dX2_settle_71 rfl (lv_at hl 1 rfl) ?_
  refine g8_5 hx hb hts hi8 hown hK hW (k := 0) rfl (hts _ (wm 5 rfl)) dX2_settle_72 ?_
  obtain ⟨M_11, hc75, hr⟩ := ob1_e hr
  refine xc_q (va_runV (As := []) (rest := [.ref (ad 232)]) ⟨hx, hb, hml, hown, hts⟩ (c_X6_startLatest l D cA ad M_8 hc75) (cwV 0 hts gX2_settle_X6_startLatest rfl rfl rfl (by decide +kernel) ⟨Nat.le_of_ble_eq_true rfl, Nat.le_of_ble_eq_true rfl⟩) (xpreV hK hW (k := 14) rfl (by decide) rfl) rfl rfl hl.1 rfl (lv_room (Nat.le_of_ble_eq_true rfl)) dX2_settle_75 ⟨Nat.le_of_ble_eq_true rfl, Nat.le_of_ble_eq_true rfl⟩) hW (fun ad_12 H locs had2 hW => ?_)
  rw [← had2.1 232 rfl] at hl ⊢
  rw [← had2.1 0 rfl] at hl
  have had := had2
  obtain ⟨M_13, hc78, hr⟩ := ob1_e hr
  refine xk_v (va_runV (As := [.ref (ad_12 16)]) (rest := []) ⟨hx, hb, hml, hown, hts⟩ (c_X2_fillIn l D cA ad_12 M_11 hc78) (cwV 1 hts gX2_settle_X2_fillIn rfl rfl rfl (by decide +kernel) ⟨Nat.le_of_ble_eq_true rfl, Nat.le_of_ble_eq_true rfl⟩) (xpreV hK hW (k := 232) rfl (by decide) rfl) rfl rfl hl.1 rfl (lv_room (Nat.le_of_ble_eq_true rfl)) dX2_settle_78 ⟨Nat.le_of_ble_eq_true rfl, Nat.le_of_ble_eq_true rfl⟩) hW (fun H locs hW => ?_)
  refine lv_aload_n hx hb dX2_settle_81 rfl (lv_at hl 1 rfl) ?_
  refine lv_dup hx hb dX2_settle_82 rfl ?_
  refine g8_6 hx hb hts hi8 hown hK hW (k := 0) rfl (hts _ (wm 6 rfl)) dX2_settle_83 ?_
  refine lv_iconst (v := (1 : Int32)) hx hb dX2_settle_86 (by decide) ?_
  refine lv_iadd hx hb dX2_settle_87 ?_
  obtain ⟨M_14, eM_14, hr⟩ := lt1_e hr
  refine p8_6 hx hb hts hi8 hown hK hW (k := 0) rfl (hts _ (wm 6 rfl)) dX2_settle_88 (fun H locs hW => ?_)
  rw [← eM_14] at hW
  refine lv_aload_n hx hb dX2_settle_91 rfl (lv_at hl 0 rfl) ?_
  refine g2_6 hx hb hts hi2 hown hK hW (k := 232) rfl (hts _ (wm 7 rfl)) dX2_settle_92 ?_
  refine lv_if_ne (tgt := 111) hx hb dX2_settle_95 (by decide) (fun c1 => ?_) (fun c1 => ?_)
  · have hr := br_n c1 hr
    refine lv_aload_n hx hb dX2_settle_111 rfl (lv_at hl 1 rfl) ?_
    refine lv_aload_n hx hb dX2_settle_112 rfl (lv_at hl 0 rfl) ?_
    refine g2_10 hx hb hts hi2 hown hK hW (k := 232) rfl (hts _ (wm 9 rfl)) dX2_settle_113 ?_
    obtain ⟨M_15, hc116, hr⟩ := ob1_e hr
    refine xk_v (va_runV (As := [.int (gI M_14 232 10)]) (rest := []) ⟨hx, hb, hml, hown, hts⟩ (c_X8_countVolume l D cA ad_12 M_14 (gI M_14 232 10) hc116) (cwV 1 hts gX2_settle_X8_countVolume rfl rfl rfl (by decide +kernel) ⟨Nat.le_of_ble_eq_true rfl, Nat.le_of_ble_eq_true rfl⟩) (xpreV hK hW (k := 0) rfl (by decide) rfl) rfl rfl hl.1 rfl (lv_room (Nat.le_of_ble_eq_true rfl)) dX2_settle_116 ⟨Nat.le_of_ble_eq_true rfl, Nat.le_of_ble_eq_true rfl⟩) hW (fun H locs hW => ?_)
    rw [← Option.some.inj hr]
    exact xvret hx hb hr0 hlocks hW had dX2_settle_119
  · have hr := br_p c1 hr
    refine lv_aload_n hx hb dX2_settle_98 rfl (lv_at hl 1 rfl) ?_
    refine lv_dup hx hb dX2_settle_99 rfl ?_
    refine g8_7 hx hb hts hi8 hown hK hW (k := 0) rfl (hts _ (wm 8 rfl)) dX2_settle_100 ?_
    refine lv_iconst (v := (1 : Int32)) hx hb dX2_settle_103 (by decide) ?_
    refine lv_iadd hx hb dX2_settle_104 ?_
    obtain ⟨M_16, eM_16, hr⟩ := lt1_e hr
    refine p8_7 hx hb hts hi8 hown hK hW (k := 0) rfl (hts _ (wm 8 rfl)) dX2_settle_105 (fun H locs hW => ?_)
    rw [← eM_16] at hW
    refine lv_goto (tgt := 119) hx hb dX2_settle_108 (by decide) ?_
    rw [← Option.some.inj hr]
    exact xvret hx hb hr0 hlocks hW had dX2_settle_119

set_option maxHeartbeats 4000000 in
set_option maxRecDepth 100000 in
theorem c_X3_fails (l : Launch) (D : va_G) (cA : Nat → ClassId) (ad : Nat → Nat) (M : Mm) (a0 : Nat) {r : Int32} (ha0 : KS true a0 = 3) (hr : f_X3_fails a0 M = some r) : Met l yX3_fails wsX3_fails ({ frames := 0, cells := 0, slots := 0, locals := 0 }) (PcX D true cA ad M [.ref (ad a0)]) (QiX false D true cA ad r M) 0 0 (AX true ad) := by
  refine Met.ofW (cc := cX3_fails) (maxL := 1) (ret := (some .boolean)) (by decide) rfl ?_
  intro p e s m args below meth c s₁ B hml hv
  obtain ⟨hav, hP0, hK⟩ := hv
  have hx := B.exec
  have hb := B.bytes
  have hr0 := B.returns
  have hts := atoms_spec (ws := wsX3_fails) B.pre
  have hown : s.vm.findClass RX3 = some m.cls := findClass_of_methodNamed B.named
  have hlocks := B.notSynchronized
  have hW := xstart hP0
  have hi3 : ∀ w ∈ wsX30, w ∈ wsX3_fails := fun w h => List.mem_cons_of_mem _ (List.mem_append_right _ h)
  have hl := lv_entry ([.ref (ad a0)]) (n := 1) (Nat.le_of_ble_eq_true rfl)
  have hef := lg_entry_eq m ([.ref (ad a0)]) 1
  rw [← hav] at hef
  rw [hef]
  clear hef
  generalize (lg_sl ([.ref (ad a0)]) ++ List.replicate (1 - (lg_sl ([.ref (ad a0)])).length) Slot.unset).toArray = ls at hl ⊢
  have hl : lv_has ls 1 [(0, .ref (ad a0))] := hl
  clear hP0
  unfold f_X3_fails at hr
  refine lv_aload_n hx hb dX3_fails_0 rfl (lv_at hl 0 rfl) ?_
  refine g3_12 hx hb hts hi3 hown hK hW (k := a0) ha0 (hts _ (wm 1 rfl)) dX3_fails_1 ?_
  refine lv_iconst (v := (3 : Int32)) hx hb dX3_fails_4 (by decide) ?_
  refine lv_icmp_lt (tgt := 12) hx hb dX3_fails_5 (by decide) (fun c1 => ?_) (fun c1 => ?_)
  · have hr := br_p c1 hr
    refine lv_iconst (v := (0 : Int32)) hx hb dX3_fails_12 (by decide) ?_
    rw [← Option.some.inj hr]
    exact xzret hx hb hr0 hlocks hW adR_rf (by decide) dX3_fails_13
  · have hr := br_n c1 hr
    refine lv_iconst (v := (1 : Int32)) hx hb dX3_fails_8 (by decide) ?_
    refine lv_goto (tgt := 13) hx hb dX3_fails_9 (by decide) ?_
    rw [← Option.some.inj hr]
    exact xzret hx hb hr0 hlocks hW adR_rf (by decide) dX3_fails_13

set_option maxHeartbeats 4000000 in
set_option maxRecDepth 100000 in
theorem c_X3_property (l : Launch) (D : va_G) (cA : Nat → ClassId) (ad : Nat → Nat) (M : Mm) (a0 : Nat) (x1 : Int32) {r : Int32} (ha0 : KS true a0 = 3) (hr : f_X3_property a0 x1 M = some r) : Met l yX3_property wsX3_property ({ frames := 1, cells := 0, slots := 0, locals := 20 }) (PcX D true cA ad M [.ref (ad a0), .int x1]) (QiX false D true cA ad r M) 0 0 (AX true ad) := by
  refine Met.ofW (cc := cX3_property) (maxL := 2) (ret := (some .int)) (by decide) rfl ?_
  intro p e s m args below meth c s₁ B hml hv
  obtain ⟨hav, hP0, hK⟩ := hv
  have hx := B.exec
  have hb := B.bytes
  have hr0 := B.returns
  have hts := atoms_spec (ws := wsX3_property) B.pre
  have hown : s.vm.findClass RX3 = some m.cls := findClass_of_methodNamed B.named
  have hlocks := B.notSynchronized
  have hW := xstart hP0
  have hi3 : ∀ w ∈ wsX30, w ∈ wsX3_property := fun w h => List.mem_cons_of_mem _ (List.mem_append_right _ h)
  have hl := lv_entry ([.ref (ad a0), .int x1]) (n := 2) (Nat.le_of_ble_eq_true rfl)
  have hef := lg_entry_eq m ([.ref (ad a0), .int x1]) 2
  rw [← hav] at hef
  rw [hef]
  clear hef
  generalize (lg_sl ([.ref (ad a0), .int x1]) ++ List.replicate (2 - (lg_sl ([.ref (ad a0), .int x1])).length) Slot.unset).toArray = ls at hl ⊢
  have hl : lv_has ls 2 [(0, .ref (ad a0)), (1, .int x1)] := hl
  clear hP0
  unfold f_X3_property at hr
  refine lv_iload_n hx hb dX3_property_0 rfl (lv_at hl 1 rfl) ?_
  by_cases c1_0 : x1 = (0 : Int32)
  · have hr := br_p c1_0 hr
    refine lv_tableIn (tgt := 72) hx hb dX3_property_1 (by rw [c1_0]; decide) (by rw [c1_0]; decide) (off := 71) (by rw [c1_0]; decide) (by decide) ?_
    refine lv_aload_n hx hb dX3_property_72 rfl (lv_at hl 0 rfl) ?_
    refine g3_0 hx hb hts hi3 hown hK hW (k := a0) ha0 (hts _ (wm 1 rfl)) dX3_property_73 ?_
    rw [← Option.some.inj hr]
    exact xiret hx hb hr0 hlocks hW adR_rf dX3_property_76
  · have hr := br_n c1_0 hr
    by_cases c1_1 : x1 = (1 : Int32)
    · have hr := br_p c1_1 hr
      refine lv_tableIn (tgt := 77) hx hb dX3_property_1 (by rw [c1_1]; decide) (by rw [c1_1]; decide) (off := 76) (by rw [c1_1]; decide) (by decide) ?_
      refine lv_aload_n hx hb dX3_property_77 rfl (lv_at hl 0 rfl) ?_
      refine g3_1 hx hb hts hi3 hown hK hW (k := a0) ha0 (hts _ (wm 2 rfl)) dX3_property_78 ?_
      rw [← Option.some.inj hr]
      exact xiret hx hb hr0 hlocks hW adR_rf dX3_property_81
    · have hr := br_n c1_1 hr
      by_cases c1_2 : x1 = (2 : Int32)
      · have hr := br_p c1_2 hr
        refine lv_tableIn (tgt := 82) hx hb dX3_property_1 (by rw [c1_2]; decide) (by rw [c1_2]; decide) (off := 81) (by rw [c1_2]; decide) (by decide) ?_
        refine lv_aload_n hx hb dX3_property_82 rfl (lv_at hl 0 rfl) ?_
        refine g3_2 hx hb hts hi3 hown hK hW (k := a0) ha0 (hts _ (wm 3 rfl)) dX3_property_83 ?_
        rw [← Option.some.inj hr]
        exact xiret hx hb hr0 hlocks hW adR_rf dX3_property_86
      · have hr := br_n c1_2 hr
        by_cases c1_3 : x1 = (3 : Int32)
        · have hr := br_p c1_3 hr
          refine lv_tableIn (tgt := 87) hx hb dX3_property_1 (by rw [c1_3]; decide) (by rw [c1_3]; decide) (off := 86) (by rw [c1_3]; decide) (by decide) ?_
          refine lv_aload_n hx hb dX3_property_87 rfl (lv_at hl 0 rfl) ?_
          refine g3_3 hx hb hts hi3 hown hK hW (k := a0) ha0 (hts _ (wm 4 rfl)) dX3_property_88 ?_
          rw [← Option.some.inj hr]
          exact xiret hx hb hr0 hlocks hW adR_rf dX3_property_91
        · have hr := br_n c1_3 hr
          by_cases c1_4 : x1 = (4 : Int32)
          · have hr := br_p c1_4 hr
            refine lv_tableIn (tgt := 92) hx hb dX3_property_1 (by rw [c1_4]; decide) (by rw [c1_4]; decide) (off := 91) (by rw [c1_4]; decide) (by decide) ?_
            refine lv_aload_n hx hb dX3_property_92 rfl (lv_at hl 0 rfl) ?_
            refine g3_4 hx hb hts hi3 hown hK hW (k := a0) ha0 (hts _ (wm 5 rfl)) dX3_property_93 ?_
            rw [← Option.some.inj hr]
            exact xiret hx hb hr0 hlocks hW adR_rf dX3_property_96
          · have hr := br_n c1_4 hr
            by_cases c1_5 : x1 = (5 : Int32)
            · have hr := br_p c1_5 hr
              refine lv_tableIn (tgt := 97) hx hb dX3_property_1 (by rw [c1_5]; decide) (by rw [c1_5]; decide) (off := 96) (by rw [c1_5]; decide) (by decide) ?_
              refine lv_aload_n hx hb dX3_property_97 rfl (lv_at hl 0 rfl) ?_
              refine g3_5 hx hb hts hi3 hown hK hW (k := a0) ha0 (hts _ (wm 6 rfl)) dX3_property_98 ?_
              refine lv_if_eq (tgt := 111) hx hb dX3_property_101 (by decide) (fun c1 => ?_) (fun c1 => ?_)
              · have hr := br_p c1 hr
                refine lv_ldc (v := (-2000000005 : Int32)) hx hb hown (hts _ (wm 8 rfl)) dX3_property_111 ?_
                rw [← Option.some.inj hr]
                exact xiret hx hb hr0 hlocks hW adR_rf dX3_property_113
              · have hr := br_n c1 hr
                refine lv_aload_n hx hb dX3_property_104 rfl (lv_at hl 0 rfl) ?_
                refine g3_6 hx hb hts hi3 hown hK hW (k := a0) ha0 (hts _ (wm 7 rfl)) dX3_property_105 ?_
                refine lv_goto (tgt := 113) hx hb dX3_property_108 (by decide) ?_
                rw [← Option.some.inj hr]
                exact xiret hx hb hr0 hlocks hW adR_rf dX3_property_113
            · have hr := br_n c1_5 hr
              by_cases c1_6 : x1 = (6 : Int32)
              · have hr := br_p c1_6 hr
                refine lv_tableIn (tgt := 114) hx hb dX3_property_1 (by rw [c1_6]; decide) (by rw [c1_6]; decide) (off := 113) (by rw [c1_6]; decide) (by decide) ?_
                refine lv_aload_n hx hb dX3_property_114 rfl (lv_at hl 0 rfl) ?_
                refine g3_5 hx hb hts hi3 hown hK hW (k := a0) ha0 (hts _ (wm 6 rfl)) dX3_property_115 ?_
                refine lv_if_eq (tgt := 128) hx hb dX3_property_118 (by decide) (fun c1 => ?_) (fun c1 => ?_)
                · have hr := br_p c1 hr
                  refine lv_ldc (v := (-2000000005 : Int32)) hx hb hown (hts _ (wm 8 rfl)) dX3_property_128 ?_
                  rw [← Option.some.inj hr]
                  exact xiret hx hb hr0 hlocks hW adR_rf dX3_property_130
                · have hr := br_n c1 hr
                  refine lv_aload_n hx hb dX3_property_121 rfl (lv_at hl 0 rfl) ?_
                  refine g3_7 hx hb hts hi3 hown hK hW (k := a0) ha0 (hts _ (wm 9 rfl)) dX3_property_122 ?_
                  refine lv_goto (tgt := 130) hx hb dX3_property_125 (by decide) ?_
                  rw [← Option.some.inj hr]
                  exact xiret hx hb hr0 hlocks hW adR_rf dX3_property_130
              · have hr := br_n c1_6 hr
                by_cases c1_7 : x1 = (7 : Int32)
                · have hr := br_p c1_7 hr
                  refine lv_tableIn (tgt := 131) hx hb dX3_property_1 (by rw [c1_7]; decide) (by rw [c1_7]; decide) (off := 130) (by rw [c1_7]; decide) (by decide) ?_
                  refine lv_aload_n hx hb dX3_property_131 rfl (lv_at hl 0 rfl) ?_
                  refine g3_8 hx hb hts hi3 hown hK hW (k := a0) ha0 (hts _ (wm 10 rfl)) dX3_property_132 ?_
                  refine lv_if_eq (tgt := 145) hx hb dX3_property_135 (by decide) (fun c1 => ?_) (fun c1 => ?_)
                  · have hr := br_p c1 hr
                    refine lv_ldc (v := (-2000000005 : Int32)) hx hb hown (hts _ (wm 8 rfl)) dX3_property_145 ?_
                    rw [← Option.some.inj hr]
                    exact xiret hx hb hr0 hlocks hW adR_rf dX3_property_147
                  · have hr := br_n c1 hr
                    refine lv_aload_n hx hb dX3_property_138 rfl (lv_at hl 0 rfl) ?_
                    refine g3_9 hx hb hts hi3 hown hK hW (k := a0) ha0 (hts _ (wm 11 rfl)) dX3_property_139 ?_
                    refine lv_goto (tgt := 147) hx hb dX3_property_142 (by decide) ?_
                    rw [← Option.some.inj hr]
                    exact xiret hx hb hr0 hlocks hW adR_rf dX3_property_147
                · have hr := br_n c1_7 hr
                  by_cases c1_8 : x1 = (8 : Int32)
                  · have hr := br_p c1_8 hr
                    refine lv_tableIn (tgt := 148) hx hb dX3_property_1 (by rw [c1_8]; decide) (by rw [c1_8]; decide) (off := 147) (by rw [c1_8]; decide) (by decide) ?_
                    refine lv_aload_n hx hb dX3_property_148 rfl (lv_at hl 0 rfl) ?_
                    refine g3_10 hx hb hts hi3 hown hK hW (k := a0) ha0 (hts _ (wm 12 rfl)) dX3_property_149 ?_
                    rw [← Option.some.inj hr]
                    exact xiret hx hb hr0 hlocks hW adR_rf dX3_property_152
                  · have hr := br_n c1_8 hr
                    by_cases c1_9 : x1 = (9 : Int32)
                    · have hr := br_p c1_9 hr
                      refine lv_tableIn (tgt := 153) hx hb dX3_property_1 (by rw [c1_9]; decide) (by rw [c1_9]; decide) (off := 152) (by rw [c1_9]; decide) (by decide) ?_
                      refine lv_aload_n hx hb dX3_property_153 rfl (lv_at hl 0 rfl) ?_
                      refine g3_11 hx hb hts hi3 hown hK hW (k := a0) ha0 (hts _ (wm 13 rfl)) dX3_property_154 ?_
                      rw [← Option.some.inj hr]
                      exact xiret hx hb hr0 hlocks hW adR_rf dX3_property_157
                    · have hr := br_n c1_9 hr
                      by_cases c1_10 : x1 = (10 : Int32)
                      · have hr := br_p c1_10 hr
                        refine lv_tableIn (tgt := 158) hx hb dX3_property_1 (by rw [c1_10]; decide) (by rw [c1_10]; decide) (off := 157) (by rw [c1_10]; decide) (by decide) ?_
                        refine lv_aload_n hx hb dX3_property_158 rfl (lv_at hl 0 rfl) ?_
                        refine g3_12 hx hb hts hi3 hown hK hW (k := a0) ha0 (hts _ (wm 14 rfl)) dX3_property_159 ?_
                        rw [← Option.some.inj hr]
                        exact xiret hx hb hr0 hlocks hW adR_rf dX3_property_162
                      · have hr := br_n c1_10 hr
                        by_cases c1_11 : x1 = (11 : Int32)
                        · have hr := br_p c1_11 hr
                          refine lv_tableIn (tgt := 163) hx hb dX3_property_1 (by rw [c1_11]; decide) (by rw [c1_11]; decide) (off := 162) (by rw [c1_11]; decide) (by decide) ?_
                          refine lv_aload_n hx hb dX3_property_163 rfl (lv_at hl 0 rfl) ?_
                          refine g3_13 hx hb hts hi3 hown hK hW (k := a0) ha0 (hts _ (wm 15 rfl)) dX3_property_164 ?_
                          rw [← Option.some.inj hr]
                          exact xiret hx hb hr0 hlocks hW adR_rf dX3_property_167
                        · have hr := br_n c1_11 hr
                          by_cases c1_12 : x1 = (12 : Int32)
                          · have hr := br_p c1_12 hr
                            refine lv_tableIn (tgt := 168) hx hb dX3_property_1 (by rw [c1_12]; decide) (by rw [c1_12]; decide) (off := 167) (by rw [c1_12]; decide) (by decide) ?_
                            refine lv_aload_n hx hb dX3_property_168 rfl (lv_at hl 0 rfl) ?_
                            refine g3_14 hx hb hts hi3 hown hK hW (k := a0) ha0 (hts _ (wm 16 rfl)) dX3_property_169 ?_
                            rw [← Option.some.inj hr]
                            exact xiret hx hb hr0 hlocks hW adR_rf dX3_property_172
                          · have hr := br_n c1_12 hr
                            by_cases c1_13 : x1 = (13 : Int32)
                            · have hr := br_p c1_13 hr
                              refine lv_tableIn (tgt := 173) hx hb dX3_property_1 (by rw [c1_13]; decide) (by rw [c1_13]; decide) (off := 172) (by rw [c1_13]; decide) (by decide) ?_
                              refine lv_aload_n hx hb dX3_property_173 rfl (lv_at hl 0 rfl) ?_
                              obtain ⟨r_1, hc174, hr⟩ := ob1_e hr
                              refine xk_i (va_runV (As := []) (rest := []) ⟨hx, hb, hml, hown, hts⟩ (c_X3_fails l D cA ad M a0 ha0 hc174) (cwV 0 hts gX3_property_X3_fails rfl rfl rfl (by decide +kernel) ⟨Nat.le_of_ble_eq_true rfl, Nat.le_of_ble_eq_true rfl⟩) (xpreV hK hW (k := a0) ha0 (by decide) rfl) rfl rfl hl.1 rfl (lv_room (Nat.le_of_ble_eq_true rfl)) dX3_property_174 ⟨Nat.le_of_ble_eq_true rfl, Nat.le_of_ble_eq_true rfl⟩) hW (fun H locs hW => ?_)
                              obtain ⟨r_2, hc177, hr⟩ := ob1_e hr
                              refine xk_i (va_runSN (As := [.int r_1]) (rest := []) ⟨hx, hb, hml, hown, hts⟩ (c_X10_asNumber l D cA ad M r_1 hc177) ⟨va_cnB 1 hts gX3_property_X10_asNumber_n78 rfl rfl rfl hK.2.2.2.2.2.2.2.2.1 (hts _ (wm 24 rfl)) (by decide +kernel) ⟨Nat.le_of_ble_eq_true rfl, Nat.le_of_ble_eq_true rfl⟩, (hts _ (wm 23 rfl)), trivial⟩ (xpreS hK hW) rfl rfl hl.1 rfl (lv_room (Nat.le_of_ble_eq_true rfl)) dX3_property_177 ⟨Nat.le_of_ble_eq_true rfl, Nat.le_of_ble_eq_true rfl⟩) hW (fun H locs hW => ?_)
                              rw [← Option.some.inj hr]
                              exact xiret hx hb hr0 hlocks hW adR_rf dX3_property_180
                            · have hr := br_n c1_13 hr
                              have hsw : x1.toInt < 0 ∨ 13 < x1.toInt := by
                                have hsw0 := lv_neT c1_0 (a := 0) rfl
                                have hsw1 := lv_neT c1_1 (a := 1) rfl
                                have hsw2 := lv_neT c1_2 (a := 2) rfl
                                have hsw3 := lv_neT c1_3 (a := 3) rfl
                                have hsw4 := lv_neT c1_4 (a := 4) rfl
                                have hsw5 := lv_neT c1_5 (a := 5) rfl
                                have hsw6 := lv_neT c1_6 (a := 6) rfl
                                have hsw7 := lv_neT c1_7 (a := 7) rfl
                                have hsw8 := lv_neT c1_8 (a := 8) rfl
                                have hsw9 := lv_neT c1_9 (a := 9) rfl
                                have hsw10 := lv_neT c1_10 (a := 10) rfl
                                have hsw11 := lv_neT c1_11 (a := 11) rfl
                                have hsw12 := lv_neT c1_12 (a := 12) rfl
                                have hsw13 := lv_neT c1_13 (a := 13) rfl
                                omega
                              refine lv_tableOut (tgt := 181) hx hb dX3_property_1 hsw (by decide) ?_
                              refine lv_ldc (v := (-2000000002 : Int32)) hx hb hown (hts _ (wm 17 rfl)) dX3_property_181 ?_
                              rw [← Option.some.inj hr]
                              exact xiret hx hb hr0 hlocks hW adR_rf dX3_property_183

set_option maxHeartbeats 4000000 in
set_option maxRecDepth 100000 in
theorem c_X10_isWithin (l : Launch) (D : va_G) (cA : Nat → ClassId) (ad : Nat → Nat) (M : Mm) (x0 : Int32) (x1 : Int32) (x2 : Int32) {r : Int32} (hr : f_X10_isWithin x0 x1 x2 M = some r) : Met l yX10_isWithin wsX10_isWithin ({ frames := 0, cells := 0, slots := 0, locals := 0 }) (PcX D true cA ad M [.int x0, .int x1, .int x2]) (QiX false D true cA ad r M) 0 0 (AX true ad) := by
  refine Met.ofW (cc := cX10_isWithin) (maxL := 3) (ret := (some .boolean)) (by decide) rfl ?_
  intro p e s m args below meth c s₁ B hml hv
  obtain ⟨hav, hP0, hK⟩ := hv
  have hx := B.exec
  have hb := B.bytes
  have hr0 := B.returns
  have hts := atoms_spec (ws := wsX10_isWithin) B.pre
  have hown : s.vm.findClass RX10 = some m.cls := findClass_of_methodNamed B.named
  have hlocks := B.notSynchronized
  have hW := xstart hP0
  have hl := lv_entry ([.int x0, .int x1, .int x2]) (n := 3) (Nat.le_of_ble_eq_true rfl)
  have hef := lg_entry_eq m ([.int x0, .int x1, .int x2]) 3
  rw [← hav] at hef
  rw [hef]
  clear hef
  generalize (lg_sl ([.int x0, .int x1, .int x2]) ++ List.replicate (3 - (lg_sl ([.int x0, .int x1, .int x2])).length) Slot.unset).toArray = ls at hl ⊢
  have hl : lv_has ls 3 [(0, .int x0), (1, .int x1), (2, .int x2)] := hl
  clear hP0
  unfold f_X10_isWithin at hr
  refine lv_iload_n hx hb dX10_isWithin_0 rfl (lv_at hl 0 rfl) ?_
  refine lv_iload_n hx hb dX10_isWithin_1 rfl (lv_at hl 1 rfl) ?_
  refine lv_icmp_lt (tgt := 14) hx hb dX10_isWithin_2 (by decide) (fun c1 => ?_) (fun c1 => ?_)
  · have hr := br_p c1 hr
    refine lv_iconst (v := (0 : Int32)) hx hb dX10_isWithin_14 (by decide) ?_
    rw [← Option.some.inj hr]
    exact xzret hx hb hr0 hlocks hW adR_rf (by decide) dX10_isWithin_15
  · have hr := br_n c1 hr
    refine lv_iload_n hx hb dX10_isWithin_5 rfl (lv_at hl 0 rfl) ?_
    refine lv_iload_n hx hb dX10_isWithin_6 rfl (lv_at hl 2 rfl) ?_
    refine lv_icmp_gt (tgt := 14) hx hb dX10_isWithin_7 (by decide) (fun c1 => ?_) (fun c1 => ?_)
    · have hr := br_p c1 hr
      refine lv_iconst (v := (0 : Int32)) hx hb dX10_isWithin_14 (by decide) ?_
      rw [← Option.some.inj hr]
      exact xzret hx hb hr0 hlocks hW adR_rf (by decide) dX10_isWithin_15
    · have hr := br_n c1 hr
      refine lv_iconst (v := (1 : Int32)) hx hb dX10_isWithin_10 (by decide) ?_
      refine lv_goto (tgt := 15) hx hb dX10_isWithin_11 (by decide) ?_
      rw [← Option.some.inj hr]
      exact xzret hx hb hr0 hlocks hW adR_rf (by decide) dX10_isWithin_15

set_option maxHeartbeats 4000000 in
set_option maxRecDepth 100000 in
theorem c_X3_canTake (l : Launch) (D : va_G) (cA : Nat → ClassId) (ad : Nat → Nat) (M : Mm) (a0 : Nat) (x1 : Int32) {r : Int32} (ha0 : KS true a0 = 3) (hr : f_X3_canTake a0 x1 M = some r) : Met l yX3_canTake wsX3_canTake ({ frames := 1, cells := 0, slots := 0, locals := 22 }) (PcX D true cA ad M [.ref (ad a0), .int x1]) (QiX false D true cA ad r M) 0 0 (AX true ad) := by
  refine Met.ofW (cc := cX3_canTake) (maxL := 2) (ret := (some .boolean)) (by decide) rfl ?_
  intro p e s m args below meth c s₁ B hml hv
  obtain ⟨hav, hP0, hK⟩ := hv
  have hx := B.exec
  have hb := B.bytes
  have hr0 := B.returns
  have hts := atoms_spec (ws := wsX3_canTake) B.pre
  have hown : s.vm.findClass RX3 = some m.cls := findClass_of_methodNamed B.named
  have hlocks := B.notSynchronized
  have hW := xstart hP0
  have hl := lv_entry ([.ref (ad a0), .int x1]) (n := 2) (Nat.le_of_ble_eq_true rfl)
  have hef := lg_entry_eq m ([.ref (ad a0), .int x1]) 2
  rw [← hav] at hef
  rw [hef]
  clear hef
  generalize (lg_sl ([.ref (ad a0), .int x1]) ++ List.replicate (2 - (lg_sl ([.ref (ad a0), .int x1])).length) Slot.unset).toArray = ls at hl ⊢
  have hl : lv_has ls 2 [(0, .ref (ad a0)), (1, .int x1)] := hl
  clear hP0
  unfold f_X3_canTake at hr
  refine lv_iload_n hx hb dX3_canTake_0 rfl (lv_at hl 1 rfl) ?_
  refine lv_sipush (v := (1000 : Int32)) hx hb dX3_canTake_1 (by decide) ?_
  refine lv_ldc (v := (9999999 : Int32)) hx hb hown (hts _ (wm 1 rfl)) dX3_canTake_4 ?_
  obtain ⟨r_1, hc6, hr⟩ := ob1_e hr
  refine xk_i (va_runSN (As := [.int x1, .int (1000 : Int32), .int (9999999 : Int32)]) (rest := []) ⟨hx, hb, hml, hown, hts⟩ (c_X10_isWithin l D cA ad M x1 (1000 : Int32) (9999999 : Int32) hc6) ⟨va_cnB 3 hts gX3_canTake_X10_isWithin_n84 rfl rfl rfl hK.2.2.2.2.2.2.2.2.2.2.2.2.2.2.2.2.2.2.2.2 (hts _ (wm 3 rfl)) (by decide +kernel) ⟨Nat.le_of_ble_eq_true rfl, Nat.le_of_ble_eq_true rfl⟩, (hts _ (wm 2 rfl)), trivial⟩ (xpreS hK hW) rfl rfl hl.1 rfl (lv_room (Nat.le_of_ble_eq_true rfl)) dX3_canTake_6 ⟨Nat.le_of_ble_eq_true rfl, Nat.le_of_ble_eq_true rfl⟩) hW (fun H locs hW => ?_)
  refine lv_if_eq (tgt := 24) hx hb dX3_canTake_9 (by decide) (fun c1 => ?_) (fun c1 => ?_)
  · have hr := br_p c1 hr
    refine lv_iconst (v := (0 : Int32)) hx hb dX3_canTake_24 (by decide) ?_
    rw [← Option.some.inj hr]
    exact xzret hx hb hr0 hlocks hW adR_rf (by decide) dX3_canTake_25
  · have hr := br_n c1 hr
    refine lv_aload_n hx hb dX3_canTake_12 rfl (lv_at hl 0 rfl) ?_
    refine lv_iload_n hx hb dX3_canTake_13 rfl (lv_at hl 1 rfl) ?_
    obtain ⟨r_2, hc14, hr⟩ := ob1_e hr
    refine xk_i (va_runV (As := [.int x1]) (rest := []) ⟨hx, hb, hml, hown, hts⟩ (c_X3_isLateEnough l D cA ad M a0 x1 ha0 hc14) (cwV 1 hts gX3_canTake_X3_isLateEnough rfl rfl rfl (by decide +kernel) ⟨Nat.le_of_ble_eq_true rfl, Nat.le_of_ble_eq_true rfl⟩) (xpreV hK hW (k := a0) ha0 (by decide) rfl) rfl rfl hl.1 rfl (lv_room (Nat.le_of_ble_eq_true rfl)) dX3_canTake_14 ⟨Nat.le_of_ble_eq_true rfl, Nat.le_of_ble_eq_true rfl⟩) hW (fun H locs hW => ?_)
    refine lv_if_eq (tgt := 24) hx hb dX3_canTake_17 (by decide) (fun c1 => ?_) (fun c1 => ?_)
    · have hr := br_p c1 hr
      refine lv_iconst (v := (0 : Int32)) hx hb dX3_canTake_24 (by decide) ?_
      rw [← Option.some.inj hr]
      exact xzret hx hb hr0 hlocks hW adR_rf (by decide) dX3_canTake_25
    · have hr := br_n c1 hr
      refine lv_iconst (v := (1 : Int32)) hx hb dX3_canTake_20 (by decide) ?_
      refine lv_goto (tgt := 25) hx hb dX3_canTake_21 (by decide) ?_
      rw [← Option.some.inj hr]
      exact xzret hx hb hr0 hlocks hW adR_rf (by decide) dX3_canTake_25

set_option maxHeartbeats 4000000 in
set_option maxRecDepth 100000 in
theorem c_X3_speedOfSound (l : Launch) (D : va_G) (cA : Nat → ClassId) (ad : Nat → Nat) (M : Mm) (a0 : Nat) {r : Int64} (ha0 : KS true a0 = 3) (hr : f_X3_speedOfSound a0 M = some r) : Met l yX3_speedOfSound wsX3_speedOfSound ({ frames := 1, cells := 0, slots := 0, locals := 23 }) (PcX D true cA ad M [.ref (ad a0)]) (QlX false D true cA ad r M) 0 0 (AX true ad) := by
  refine Met.ofW (cc := cX3_speedOfSound) (maxL := 5) (ret := (some .long)) (by decide) rfl ?_
  intro p e s m args below meth c s₁ B hml hv
  obtain ⟨hav, hP0, hK⟩ := hv
  have hx := B.exec
  have hb := B.bytes
  have hr0 := B.returns
  have hts := atoms_spec (ws := wsX3_speedOfSound) B.pre
  have hown : s.vm.findClass RX3 = some m.cls := findClass_of_methodNamed B.named
  have hlocks := B.notSynchronized
  have hW := xstart hP0
  have hi3 : ∀ w ∈ wsX30, w ∈ wsX3_speedOfSound := fun w h => List.mem_cons_of_mem _ (List.mem_append_right _ h)
  have hl := lv_entry ([.ref (ad a0)]) (n := 5) (Nat.le_of_ble_eq_true rfl)
  have hef := lg_entry_eq m ([.ref (ad a0)]) 5
  rw [← hav] at hef
  rw [hef]
  clear hef
  generalize (lg_sl ([.ref (ad a0)]) ++ List.replicate (5 - (lg_sl ([.ref (ad a0)])).length) Slot.unset).toArray = ls at hl ⊢
  have hl : lv_has ls 5 [(0, .ref (ad a0))] := hl
  clear hP0
  unfold f_X3_speedOfSound at hr
  refine lv_aload_n hx hb dX3_speedOfSound_0 rfl (lv_at hl 0 rfl) ?_
  refine g3_6 hx hb hts hi3 hown hK hW (k := a0) ha0 (hts _ (wm 1 rfl)) dX3_speedOfSound_1 ?_
  refine lv_aload_n hx hb dX3_speedOfSound_4 rfl (lv_at hl 0 rfl) ?_
  refine g3_4 hx hb hts hi3 hown hK hW (k := a0) ha0 (hts _ (wm 2 rfl)) dX3_speedOfSound_5 ?_
  refine lv_isub hx hb dX3_speedOfSound_8 ?_
  refine lv_i2l hx hb dX3_speedOfSound_9 rfl ?_
  obtain ⟨x1_1, ex1_1, hr⟩ := lt1_e hr
  rw [← ex1_1]
  refine lv_lstore_n (lv' := [(1, .long x1_1), (0, .ref (ad a0))]) hx hb dX3_speedOfSound_10 rfl hl (by decide) rfl (fun ls hl => ?_)
  refine lv_aload_n hx hb dX3_speedOfSound_11 rfl (lv_at hl 1 rfl) ?_
  refine g3_7 hx hb hts hi3 hown hK hW (k := a0) ha0 (hts _ (wm 3 rfl)) dX3_speedOfSound_12 ?_
  refine lv_aload_n hx hb dX3_speedOfSound_15 rfl (lv_at hl 1 rfl) ?_
  refine g3_4 hx hb hts hi3 hown hK hW (k := a0) ha0 (hts _ (wm 2 rfl)) dX3_speedOfSound_16 ?_
  refine lv_isub hx hb dX3_speedOfSound_19 ?_
  refine lv_i2l hx hb dX3_speedOfSound_20 rfl ?_
  obtain ⟨x3_2, ex3_2, hr⟩ := lt1_e hr
  rw [← ex3_2]
  refine lv_lstore_n (lv' := [(3, .long x3_2), (1, .long x1_1), (0, .ref (ad a0))]) hx hb dX3_speedOfSound_21 rfl hl (by decide) rfl (fun ls hl => ?_)
  refine lv_aload_n hx hb dX3_speedOfSound_22 rfl (lv_at hl 2 rfl) ?_
  refine g3_0 hx hb hts hi3 hown hK hW (k := a0) ha0 (hts _ (wm 4 rfl)) dX3_speedOfSound_23 ?_
  refine lv_i2l hx hb dX3_speedOfSound_26 rfl ?_
  refine lv_ldc2 (v := (500000 : Int64)) hx hb hown (hts _ (wm 5 rfl)) dX3_speedOfSound_27 ?_
  refine lv_lmul hx hb dX3_speedOfSound_30 ?_
  refine lv_lload_n hx hb dX3_speedOfSound_31 rfl (lv_at hl 1 rfl) ?_
  refine lv_lload_n hx hb dX3_speedOfSound_32 rfl (lv_at hl 0 rfl) ?_
  refine lv_ladd hx hb dX3_speedOfSound_33 ?_
  refine lv_lmul hx hb dX3_speedOfSound_34 ?_
  refine lv_lload_n hx hb dX3_speedOfSound_35 rfl (lv_at hl 1 rfl) ?_
  refine lv_lload_n hx hb dX3_speedOfSound_36 rfl (lv_at hl 0 rfl) ?_
  refine lv_lmul hx hb dX3_speedOfSound_37 ?_
  refine lv_ldc2 (v := (1000 : Int64)) hx hb hown (hts _ (wm 6 rfl)) dX3_speedOfSound_38 ?_
  refine lv_ldiv hx hb dX3_speedOfSound_41 (by decide) ?_
  obtain ⟨r_3, hc42, hr⟩ := ob1_e hr
  refine xk_l (va_runSN (As := [.long (((Int32.toInt64 (gI M a0 0)) * (500000 : Int64)) * (x1_1 + x3_2)), .long ((x1_1 * x3_2) / (1000 : Int64))]) (rest := []) ⟨hx, hb, hml, hown, hts⟩ (c_X10_quotient l D cA ad M (((Int32.toInt64 (gI M a0 0)) * (500000 : Int64)) * (x1_1 + x3_2)) ((x1_1 * x3_2) / (1000 : Int64)) hc42) ⟨va_cnB 2 hts gX3_speedOfSound_X10_quotient_n94 rfl rfl rfl hK.2.2.2.2.2.2.2.2.2.2.1 (hts _ (wm 8 rfl)) (by decide +kernel) ⟨Nat.le_of_ble_eq_true rfl, Nat.le_of_ble_eq_true rfl⟩, (hts _ (wm 7 rfl)), trivial⟩ (xpreS hK hW) rfl rfl hl.1 rfl (lv_room (Nat.le_of_ble_eq_true rfl)) dX3_speedOfSound_42 ⟨Nat.le_of_ble_eq_true rfl, Nat.le_of_ble_eq_true rfl⟩) hW (fun H locs hW => ?_)
  rw [← Option.some.inj hr]
  exact xlret hx hb hr0 hlocks hW adR_rf dX3_speedOfSound_45

set_option maxHeartbeats 4000000 in
set_option maxRecDepth 100000 in
theorem c_X3_idealTime (l : Launch) (D : va_G) (cA : Nat → ClassId) (ad : Nat → Nat) (M : Mm) (a0 : Nat) (x1 : Int32) (x2 : Int32) {r : Int32} (ha0 : KS true a0 = 3) (hr : f_X3_idealTime a0 x1 x2 M = some r) : Met l yX3_idealTime wsX3_idealTime ({ frames := 1, cells := 0, slots := 0, locals := 23 }) (PcX D true cA ad M [.ref (ad a0), .int x1, .int x2]) (QiX false D true cA ad r M) 0 0 (AX true ad) := by
  refine Met.ofW (cc := cX3_idealTime) (maxL := 5) (ret := (some .int)) (by decide) rfl ?_
  intro p e s m args below meth c s₁ B hml hv
  obtain ⟨hav, hP0, hK⟩ := hv
  have hx := B.exec
  have hb := B.bytes
  have hr0 := B.returns
  have hts := atoms_spec (ws := wsX3_idealTime) B.pre
  have hown : s.vm.findClass RX3 = some m.cls := findClass_of_methodNamed B.named
  have hlocks := B.notSynchronized
  have hW := xstart hP0
  have hi3 : ∀ w ∈ wsX30, w ∈ wsX3_idealTime := fun w h => List.mem_cons_of_mem _ (List.mem_append_right _ h)
  have hl := lv_entry ([.ref (ad a0), .int x1, .int x2]) (n := 5) (Nat.le_of_ble_eq_true rfl)
  have hef := lg_entry_eq m ([.ref (ad a0), .int x1, .int x2]) 5
  rw [← hav] at hef
  rw [hef]
  clear hef
  generalize (lg_sl ([.ref (ad a0), .int x1, .int x2]) ++ List.replicate (5 - (lg_sl ([.ref (ad a0), .int x1, .int x2])).length) Slot.unset).toArray = ls at hl ⊢
  have hl : lv_has ls 5 [(0, .ref (ad a0)), (1, .int x1), (2, .int x2)] := hl
  clear hP0
  unfold f_X3_idealTime at hr
  refine lv_iload_n hx hb dX3_idealTime_0 rfl (lv_at hl 1 rfl) ?_
  refine lv_i2l hx hb dX3_idealTime_1 rfl ?_
  refine lv_ldc2 (v := (1000 : Int64)) hx hb hown (hts _ (wm 1 rfl)) dX3_idealTime_2 ?_
  refine lv_lmul hx hb dX3_idealTime_5 ?_
  refine lv_iload_n hx hb dX3_idealTime_6 rfl (lv_at hl 2 rfl) ?_
  refine lv_i2l hx hb dX3_idealTime_7 rfl ?_
  refine lv_aload_n hx hb dX3_idealTime_8 rfl (lv_at hl 0 rfl) ?_
  refine g3_1 hx hb hts hi3 hown hK hW (k := a0) ha0 (hts _ (wm 2 rfl)) dX3_idealTime_9 ?_
  refine lv_i2l hx hb dX3_idealTime_12 rfl ?_
  refine lv_lmul hx hb dX3_idealTime_13 ?_
  refine lv_aload_n hx hb dX3_idealTime_14 rfl (lv_at hl 0 rfl) ?_
  refine g3_0 hx hb hts hi3 hown hK hW (k := a0) ha0 (hts _ (wm 3 rfl)) dX3_idealTime_15 ?_
  refine lv_i2l hx hb dX3_idealTime_18 rfl ?_
  obtain ⟨r_1, hc19, hr⟩ := ob1_e hr
  refine xk_l (va_runSN (As := [.long ((Int32.toInt64 x2) * (Int32.toInt64 (gI M a0 1))), .long (Int32.toInt64 (gI M a0 0))]) (rest := [.long ((Int32.toInt64 x1) * (1000 : Int64))]) ⟨hx, hb, hml, hown, hts⟩ (c_X10_quotient l D cA ad M ((Int32.toInt64 x2) * (Int32.toInt64 (gI M a0 1))) (Int32.toInt64 (gI M a0 0)) hc19) ⟨va_cnB 2 hts gX3_idealTime_X10_quotient_n94 rfl rfl rfl hK.2.2.2.2.2.2.2.2.2.2.1 (hts _ (wm 7 rfl)) (by decide +kernel) ⟨Nat.le_of_ble_eq_true rfl, Nat.le_of_ble_eq_true rfl⟩, (hts _ (wm 6 rfl)), trivial⟩ (xpreS hK hW) rfl rfl hl.1 rfl (lv_room (Nat.le_of_ble_eq_true rfl)) dX3_idealTime_19 ⟨Nat.le_of_ble_eq_true rfl, Nat.le_of_ble_eq_true rfl⟩) hW (fun H locs hW => ?_)
  refine lv_ladd hx hb dX3_idealTime_22 ?_
  obtain ⟨x3_2, ex3_2, hr⟩ := lt1_e hr
  rw [← ex3_2]
  refine lv_lstore_n (lv' := [(3, .long x3_2), (0, .ref (ad a0)), (1, .int x1), (2, .int x2)]) hx hb dX3_idealTime_23 rfl hl (by decide) rfl (fun ls hl => ?_)
  refine lv_aload_n hx hb dX3_idealTime_24 rfl (lv_at hl 1 rfl) ?_
  refine g3_0 hx hb hts hi3 hown hK hW (k := a0) ha0 (hts _ (wm 3 rfl)) dX3_idealTime_25 ?_
  refine lv_i2l hx hb dX3_idealTime_28 rfl ?_
  refine lv_ldc2 (v := (1000000000 : Int64)) hx hb hown (hts _ (wm 4 rfl)) dX3_idealTime_29 ?_
  refine lv_lmul hx hb dX3_idealTime_32 ?_
  refine lv_lload_n hx hb dX3_idealTime_33 rfl (lv_at hl 0 rfl) ?_
  obtain ⟨r_3, hc34, hr⟩ := ob1_e hr
  refine xk_l (va_runSN (As := [.long ((Int32.toInt64 (gI M a0 0)) * (1000000000 : Int64)), .long x3_2]) (rest := []) ⟨hx, hb, hml, hown, hts⟩ (c_X10_quotient l D cA ad M ((Int32.toInt64 (gI M a0 0)) * (1000000000 : Int64)) x3_2 hc34) ⟨va_cnB 2 hts gX3_idealTime_X10_quotient_n94 rfl rfl rfl hK.2.2.2.2.2.2.2.2.2.2.1 (hts _ (wm 7 rfl)) (by decide +kernel) ⟨Nat.le_of_ble_eq_true rfl, Nat.le_of_ble_eq_true rfl⟩, (hts _ (wm 6 rfl)), trivial⟩ (xpreS hK hW) rfl rfl hl.1 rfl (lv_room (Nat.le_of_ble_eq_true rfl)) dX3_idealTime_34 ⟨Nat.le_of_ble_eq_true rfl, Nat.le_of_ble_eq_true rfl⟩) hW (fun H locs hW => ?_)
  refine lv_l2i hx hb dX3_idealTime_37 rfl ?_
  refine lv_aload_n hx hb dX3_idealTime_38 rfl (lv_at hl 1 rfl) ?_
  refine g3_4 hx hb hts hi3 hown hK hW (k := a0) ha0 (hts _ (wm 5 rfl)) dX3_idealTime_39 ?_
  refine lv_iadd hx hb dX3_idealTime_42 ?_
  rw [← Option.some.inj hr]
  exact xiret hx hb hr0 hlocks hW adR_rf dX3_idealTime_43

set_option maxHeartbeats 4000000 in
set_option maxRecDepth 100000 in
theorem c_X7_exchangeTimes (l : Launch) (D : va_G) (cA : Nat → ClassId) (ad : Nat → Nat) (M : Mm) (a0 : Nat) {M' : Mm} (ha0 : KS true a0 = 7) (hr : f_X7_exchangeTimes a0 M = some M') : Met l yX7_exchangeTimes wsX7_exchangeTimes ({ frames := 0, cells := 0, slots := 0, locals := 0 }) (PcX D true cA ad M [.ref (ad a0)]) (QvX false D true cA ad M') 0 0 (AX true ad) := by
  refine Met.ofW (cc := cX7_exchangeTimes) (maxL := 2) (ret := none) (by decide) rfl ?_
  intro p e s m args below meth c s₁ B hml hv
  obtain ⟨hav, hP0, hK⟩ := hv
  have hx := B.exec
  have hb := B.bytes
  have hr0 := B.returns
  have hts := atoms_spec (ws := wsX7_exchangeTimes) B.pre
  have hown : s.vm.findClass RX7 = some m.cls := findClass_of_methodNamed B.named
  have hlocks := B.notSynchronized
  have hW := xstart hP0
  have hi7 : ∀ w ∈ wsX70, w ∈ wsX7_exchangeTimes := fun w h => List.mem_cons_of_mem _ (List.mem_append_right _ h)
  have hl := lv_entry ([.ref (ad a0)]) (n := 2) (Nat.le_of_ble_eq_true rfl)
  have hef := lg_entry_eq m ([.ref (ad a0)]) 2
  rw [← hav] at hef
  rw [hef]
  clear hef
  generalize (lg_sl ([.ref (ad a0)]) ++ List.replicate (2 - (lg_sl ([.ref (ad a0)])).length) Slot.unset).toArray = ls at hl ⊢
  have hl : lv_has ls 2 [(0, .ref (ad a0))] := hl
  clear hP0
  unfold f_X7_exchangeTimes at hr
  refine lv_aload_n hx hb dX7_exchangeTimes_0 rfl (lv_at hl 0 rfl) ?_
  refine g7_1 hx hb hts hi7 hown hK hW (k := a0) ha0 (hts _ (wm 1 rfl)) dX7_exchangeTimes_1 ?_
  obtain ⟨x1_1, ex1_1, hr⟩ := lt1_e hr
  rw [← ex1_1]
  refine lv_istore_n (lv' := [(1, .int x1_1), (0, .ref (ad a0))]) hx hb dX7_exchangeTimes_4 rfl hl (by decide) rfl (fun ls hl => ?_)
  refine lv_aload_n hx hb dX7_exchangeTimes_5 rfl (lv_at hl 1 rfl) ?_
  refine lv_aload_n hx hb dX7_exchangeTimes_6 rfl (lv_at hl 1 rfl) ?_
  refine g7_2 hx hb hts hi7 hown hK hW (k := a0) ha0 (hts _ (wm 2 rfl)) dX7_exchangeTimes_7 ?_
  obtain ⟨M_2, eM_2, hr⟩ := lt1_e hr
  refine p7_1 hx hb hts hi7 hown hK hW (k := a0) ha0 (hts _ (wm 1 rfl)) dX7_exchangeTimes_10 (fun H locs hW => ?_)
  rw [← eM_2] at hW
  refine lv_aload_n hx hb dX7_exchangeTimes_13 rfl (lv_at hl 1 rfl) ?_
  refine lv_iload_n hx hb dX7_exchangeTimes_14 rfl (lv_at hl 0 rfl) ?_
  obtain ⟨M_3, eM_3, hr⟩ := lt1_e hr
  refine p7_2 hx hb hts hi7 hown hK hW (k := a0) ha0 (hts _ (wm 2 rfl)) dX7_exchangeTimes_15 (fun H locs hW => ?_)
  rw [← eM_3] at hW
  rw [← Option.some.inj hr]
  exact xvret hx hb hr0 hlocks hW adR_rf dX7_exchangeTimes_18

set_option maxHeartbeats 4000000 in
set_option maxRecDepth 100000 in
theorem c_X3_exchangeTimes (l : Launch) (D : va_G) (cA : Nat → ClassId) (ad : Nat → Nat) (M : Mm) (a0 : Nat) {M' : Mm} (ha0 : KS true a0 = 3) (hr : f_X3_exchangeTimes a0 M = some M') : Met l yX3_exchangeTimes wsX3_exchangeTimes ({ frames := 1, cells := 0, slots := 0, locals := 21 }) (PcX D true cA ad M [.ref (ad a0)]) (QvX false D true cA ad M') 0 0 (AX true ad) := by
  refine Met.ofW (cc := cX3_exchangeTimes) (maxL := 2) (ret := none) (by decide) rfl ?_
  intro p e s m args below meth c s₁ B hml hv
  obtain ⟨hav, hP0, hK⟩ := hv
  have hx := B.exec
  have hb := B.bytes
  have hr0 := B.returns
  have hts := atoms_spec (ws := wsX3_exchangeTimes) B.pre
  have hown : s.vm.findClass RX3 = some m.cls := findClass_of_methodNamed B.named
  have hlocks := B.notSynchronized
  have hW := xstart hP0
  have hi3 : ∀ w ∈ wsX30, w ∈ wsX3_exchangeTimes := fun w h => List.mem_cons_of_mem _ (List.mem_append_left _ (List.mem_append_right _ h))
  have hl := lv_entry ([.ref (ad a0)]) (n := 2) (Nat.le_of_ble_eq_true rfl)
  have hef := lg_entry_eq m ([.ref (ad a0)]) 2
  rw [← hav] at hef
  rw [hef]
  clear hef
  generalize (lg_sl ([.ref (ad a0)]) ++ List.replicate (2 - (lg_sl ([.ref (ad a0)])).length) Slot.unset).toArray = ls at hl ⊢
  have hl : lv_has ls 2 [(0, .ref (ad a0))] := hl
  clear hP0
  unfold f_X3_exchangeTimes at hr
  refine lv_aload_n hx hb dX3_exchangeTimes_0 rfl (lv_at hl 0 rfl) ?_
  refine g3_6 hx hb hts hi3 hown hK hW (k := a0) ha0 (hts _ (wm 1 rfl)) dX3_exchangeTimes_1 ?_
  obtain ⟨x1_1, ex1_1, hr⟩ := lt1_e hr
  rw [← ex1_1]
  refine lv_istore_n (lv' := [(1, .int x1_1), (0, .ref (ad a0))]) hx hb dX3_exchangeTimes_4 rfl hl (by decide) rfl (fun ls hl => ?_)
  refine lv_aload_n hx hb dX3_exchangeTimes_5 rfl (lv_at hl 1 rfl) ?_
  refine lv_aload_n hx hb dX3_exchangeTimes_6 rfl (lv_at hl 1 rfl) ?_
  refine g3_7 hx hb hts hi3 hown hK hW (k := a0) ha0 (hts _ (wm 2 rfl)) dX3_exchangeTimes_7 ?_
  obtain ⟨M_2, eM_2, hr⟩ := lt1_e hr
  refine p3_6 hx hb hts hi3 hown hK hW (k := a0) ha0 (hts _ (wm 1 rfl)) dX3_exchangeTimes_10 (fun H locs hW => ?_)
  rw [← eM_2] at hW
  refine lv_aload_n hx hb dX3_exchangeTimes_13 rfl (lv_at hl 1 rfl) ?_
  refine lv_iload_n hx hb dX3_exchangeTimes_14 rfl (lv_at hl 0 rfl) ?_
  obtain ⟨M_3, eM_3, hr⟩ := lt1_e hr
  refine p3_7 hx hb hts hi3 hown hK hW (k := a0) ha0 (hts _ (wm 2 rfl)) dX3_exchangeTimes_15 (fun H locs hW => ?_)
  rw [← eM_3] at hW
  refine lv_aload_n hx hb dX3_exchangeTimes_18 rfl (lv_at hl 1 rfl) ?_
  refine g3_15 hx hb hts hi3 hown hK hW (k := a0) ha0 (hts _ (wm 3 rfl)) dX3_exchangeTimes_19 ?_
  obtain ⟨M_4, hc22, hr⟩ := ob1_e hr
  refine xk_v (va_runV (As := []) (rest := []) ⟨hx, hb, hml, hown, hts⟩ (c_X7_exchangeTimes l D cA ad M_3 (a0 + 1) (ks_3s ha0) hc22) (cwV 0 hts gX3_exchangeTimes_X7_exchangeTimes rfl rfl rfl (by decide +kernel) ⟨Nat.le_of_ble_eq_true rfl, Nat.le_of_ble_eq_true rfl⟩) (xpreV hK hW (k := (a0 + 1)) (ks_3s ha0) (by decide) rfl) rfl rfl hl.1 rfl (lv_room (Nat.le_of_ble_eq_true rfl)) dX3_exchangeTimes_22 ⟨Nat.le_of_ble_eq_true rfl, Nat.le_of_ble_eq_true rfl⟩) hW (fun H locs hW => ?_)
  rw [← Option.some.inj hr]
  exact xvret hx hb hr0 hlocks hW adR_rf dX3_exchangeTimes_25

set_option maxHeartbeats 4000000 in
set_option maxRecDepth 100000 in
theorem c_X3_isTrustedBefore (l : Launch) (D : va_G) (cA : Nat → ClassId) (ad : Nat → Nat) (M : Mm) (a0 : Nat) (a1 : Nat) (x2 : Int32) {r : Int32} (ha0 : KS true a0 = 3) (ha1 : KS true a1 = 3) (hr : f_X3_isTrustedBefore a0 a1 x2 M = some r) : Met l yX3_isTrustedBefore wsX3_isTrustedBefore ({ frames := 1, cells := 0, slots := 0, locals := 20 }) (PcX D true cA ad M [.ref (ad a0), .ref (ad a1), .int x2]) (QiX false D true cA ad r M) 0 0 (AX true ad) := by
  refine Met.ofW (cc := cX3_isTrustedBefore) (maxL := 5) (ret := (some .boolean)) (by decide) rfl ?_
  intro p e s m args below meth c s₁ B hml hv
  obtain ⟨hav, hP0, hK⟩ := hv
  have hx := B.exec
  have hb := B.bytes
  have hr0 := B.returns
  have hts := atoms_spec (ws := wsX3_isTrustedBefore) B.pre
  have hown : s.vm.findClass RX3 = some m.cls := findClass_of_methodNamed B.named
  have hlocks := B.notSynchronized
  have hW := xstart hP0
  have hi3 : ∀ w ∈ wsX30, w ∈ wsX3_isTrustedBefore := fun w h => List.mem_cons_of_mem _ (List.mem_append_right _ h)
  have hl := lv_entry ([.ref (ad a0), .ref (ad a1), .int x2]) (n := 5) (Nat.le_of_ble_eq_true rfl)
  have hef := lg_entry_eq m ([.ref (ad a0), .ref (ad a1), .int x2]) 5
  rw [← hav] at hef
  rw [hef]
  clear hef
  generalize (lg_sl ([.ref (ad a0), .ref (ad a1), .int x2]) ++ List.replicate (5 - (lg_sl ([.ref (ad a0), .ref (ad a1), .int x2])).length) Slot.unset).toArray = ls at hl ⊢
  have hl : lv_has ls 5 [(0, .ref (ad a0)), (1, .ref (ad a1)), (2, .int x2)] := hl
  clear hP0
  unfold f_X3_isTrustedBefore at hr
  refine lv_aload_n hx hb dX3_isTrustedBefore_0 rfl (lv_at hl 0 rfl) ?_
  obtain ⟨r_1, hc1, hr⟩ := ob1_e hr
  refine xk_i (va_runV (As := []) (rest := []) ⟨hx, hb, hml, hown, hts⟩ (c_X3_fails l D cA ad M a0 ha0 hc1) (cwV 0 hts gX3_isTrustedBefore_X3_fails rfl rfl rfl (by decide +kernel) ⟨Nat.le_of_ble_eq_true rfl, Nat.le_of_ble_eq_true rfl⟩) (xpreV hK hW (k := a0) ha0 (by decide) rfl) rfl rfl hl.1 rfl (lv_room (Nat.le_of_ble_eq_true rfl)) dX3_isTrustedBefore_1 ⟨Nat.le_of_ble_eq_true rfl, Nat.le_of_ble_eq_true rfl⟩) hW (fun H locs hW => ?_)
  refine lv_aload_n hx hb dX3_isTrustedBefore_4 rfl (lv_at hl 1 rfl) ?_
  obtain ⟨r_2, hc5, hr⟩ := ob1_e hr
  refine xk_i (va_runV (As := []) (rest := [.int r_1]) ⟨hx, hb, hml, hown, hts⟩ (c_X3_fails l D cA ad M a1 ha1 hc5) (cwV 0 hts gX3_isTrustedBefore_X3_fails rfl rfl rfl (by decide +kernel) ⟨Nat.le_of_ble_eq_true rfl, Nat.le_of_ble_eq_true rfl⟩) (xpreV hK hW (k := a1) ha1 (by decide) rfl) rfl rfl hl.1 rfl (lv_room (Nat.le_of_ble_eq_true rfl)) dX3_isTrustedBefore_5 ⟨Nat.le_of_ble_eq_true rfl, Nat.le_of_ble_eq_true rfl⟩) hW (fun H locs hW => ?_)
  refine lv_icmp_eq (tgt := 16) hx hb dX3_isTrustedBefore_8 (by decide) (fun c1 => ?_) (fun c1 => ?_)
  · have hr := br_p c1 hr
    refine lv_aload_n hx hb dX3_isTrustedBefore_16 rfl (lv_at hl 0 rfl) ?_
    refine g3_12 hx hb hts hi3 hown hK hW (k := a0) ha0 (hts _ (wm 1 rfl)) dX3_isTrustedBefore_17 ?_
    refine lv_aload_n hx hb dX3_isTrustedBefore_20 rfl (lv_at hl 1 rfl) ?_
    refine g3_12 hx hb hts hi3 hown hK hW (k := a1) ha1 (hts _ (wm 1 rfl)) dX3_isTrustedBefore_21 ?_
    refine lv_icmp_eq (tgt := 44) hx hb dX3_isTrustedBefore_24 (by decide) (fun c1 => ?_) (fun c1 => ?_)
    · have hr := br_p c1 hr
      refine lv_aload_n hx hb dX3_isTrustedBefore_44 rfl (lv_at hl 0 rfl) ?_
      refine g3_13 hx hb hts hi3 hown hK hW (k := a0) ha0 (hts _ (wm 2 rfl)) dX3_isTrustedBefore_45 ?_
      refine lv_aload_n hx hb dX3_isTrustedBefore_48 rfl (lv_at hl 0 rfl) ?_
      refine g3_14 hx hb hts hi3 hown hK hW (k := a0) ha0 (hts _ (wm 3 rfl)) dX3_isTrustedBefore_49 ?_
      refine lv_iadd hx hb dX3_isTrustedBefore_52 ?_
      obtain ⟨x3_3, ex3_3, hr⟩ := lt1_e hr
      rw [← ex3_3]
      refine lv_istore_n (lv' := [(3, .int x3_3), (0, .ref (ad a0)), (1, .ref (ad a1)), (2, .int x2)]) hx hb dX3_isTrustedBefore_53 rfl hl (by decide) rfl (fun ls hl => ?_)
      refine lv_aload_n hx hb dX3_isTrustedBefore_54 rfl (lv_at hl 2 rfl) ?_
      refine g3_13 hx hb hts hi3 hown hK hW (k := a1) ha1 (hts _ (wm 2 rfl)) dX3_isTrustedBefore_55 ?_
      refine lv_aload_n hx hb dX3_isTrustedBefore_58 rfl (lv_at hl 2 rfl) ?_
      refine g3_14 hx hb hts hi3 hown hK hW (k := a1) ha1 (hts _ (wm 3 rfl)) dX3_isTrustedBefore_59 ?_
      refine lv_iadd hx hb dX3_isTrustedBefore_62 ?_
      obtain ⟨x4_4, ex4_4, hr⟩ := lt1_e hr
      rw [← ex4_4]
      refine lv_istore (lv' := [(4, .int x4_4), (3, .int x3_3), (0, .ref (ad a0)), (1, .ref (ad a1)), (2, .int x2)]) hx hb dX3_isTrustedBefore_63 hl (by decide) rfl (fun ls hl => ?_)
      refine lv_iload_n hx hb dX3_isTrustedBefore_65 rfl (lv_at hl 1 rfl) ?_
      refine lv_iload hx hb dX3_isTrustedBefore_66 (lv_at hl 0 rfl) ?_
      refine lv_icmp_eq (tgt := 83) hx hb dX3_isTrustedBefore_68 (by decide) (fun c1 => ?_) (fun c1 => ?_)
      · have hr := br_p c1 hr
        refine lv_aload_n hx hb dX3_isTrustedBefore_83 rfl (lv_at hl 2 rfl) ?_
        refine g3_2 hx hb hts hi3 hown hK hW (k := a0) ha0 (hts _ (wm 4 rfl)) dX3_isTrustedBefore_84 ?_
        refine lv_aload_n hx hb dX3_isTrustedBefore_87 rfl (lv_at hl 3 rfl) ?_
        refine g3_2 hx hb hts hi3 hown hK hW (k := a1) ha1 (hts _ (wm 4 rfl)) dX3_isTrustedBefore_88 ?_
        refine lv_icmp_eq (tgt := 111) hx hb dX3_isTrustedBefore_91 (by decide) (fun c1 => ?_) (fun c1 => ?_)
        · have hr := br_p c1 hr
          refine lv_iload_n hx hb dX3_isTrustedBefore_111 rfl (lv_at hl 4 rfl) ?_
          obtain ⟨hz112, hr⟩ := chk_e hr
          rw [← Option.some.inj hr]
          exact xzret hx hb hr0 hlocks hW adR_rf hz112 dX3_isTrustedBefore_112
        · have hr := br_n c1 hr
          refine lv_aload_n hx hb dX3_isTrustedBefore_94 rfl (lv_at hl 2 rfl) ?_
          refine g3_2 hx hb hts hi3 hown hK hW (k := a0) ha0 (hts _ (wm 4 rfl)) dX3_isTrustedBefore_95 ?_
          refine lv_aload_n hx hb dX3_isTrustedBefore_98 rfl (lv_at hl 3 rfl) ?_
          refine g3_2 hx hb hts hi3 hown hK hW (k := a1) ha1 (hts _ (wm 4 rfl)) dX3_isTrustedBefore_99 ?_
          refine lv_icmp_le (tgt := 109) hx hb dX3_isTrustedBefore_102 (by decide) (fun c1 => ?_) (fun c1 => ?_)
          · have hr := br_p c1 hr
            refine lv_iconst (v := (0 : Int32)) hx hb dX3_isTrustedBefore_109 (by decide) ?_
            rw [← Option.some.inj hr]
            exact xzret hx hb hr0 hlocks hW adR_rf (by decide) dX3_isTrustedBefore_110
          · have hr := br_n c1 hr
            refine lv_iconst (v := (1 : Int32)) hx hb dX3_isTrustedBefore_105 (by decide) ?_
            refine lv_goto (tgt := 110) hx hb dX3_isTrustedBefore_106 (by decide) ?_
            rw [← Option.some.inj hr]
            exact xzret hx hb hr0 hlocks hW adR_rf (by decide) dX3_isTrustedBefore_110
      · have hr := br_n c1 hr
        refine lv_iload_n hx hb dX3_isTrustedBefore_71 rfl (lv_at hl 1 rfl) ?_
        refine lv_iload hx hb dX3_isTrustedBefore_72 (lv_at hl 0 rfl) ?_
        refine lv_icmp_ge (tgt := 81) hx hb dX3_isTrustedBefore_74 (by decide) (fun c1 => ?_) (fun c1 => ?_)
        · have hr := br_p c1 hr
          refine lv_iconst (v := (0 : Int32)) hx hb dX3_isTrustedBefore_81 (by decide) ?_
          rw [← Option.some.inj hr]
          exact xzret hx hb hr0 hlocks hW adR_rf (by decide) dX3_isTrustedBefore_82
        · have hr := br_n c1 hr
          refine lv_iconst (v := (1 : Int32)) hx hb dX3_isTrustedBefore_77 (by decide) ?_
          refine lv_goto (tgt := 82) hx hb dX3_isTrustedBefore_78 (by decide) ?_
          rw [← Option.some.inj hr]
          exact xzret hx hb hr0 hlocks hW adR_rf (by decide) dX3_isTrustedBefore_82
    · have hr := br_n c1 hr
      refine lv_aload_n hx hb dX3_isTrustedBefore_27 rfl (lv_at hl 0 rfl) ?_
      refine g3_12 hx hb hts hi3 hown hK hW (k := a0) ha0 (hts _ (wm 1 rfl)) dX3_isTrustedBefore_28 ?_
      refine lv_aload_n hx hb dX3_isTrustedBefore_31 rfl (lv_at hl 1 rfl) ?_
      refine g3_12 hx hb hts hi3 hown hK hW (k := a1) ha1 (hts _ (wm 1 rfl)) dX3_isTrustedBefore_32 ?_
      refine lv_icmp_ge (tgt := 42) hx hb dX3_isTrustedBefore_35 (by decide) (fun c1 => ?_) (fun c1 => ?_)
      · have hr := br_p c1 hr
        refine lv_iconst (v := (0 : Int32)) hx hb dX3_isTrustedBefore_42 (by decide) ?_
        rw [← Option.some.inj hr]
        exact xzret hx hb hr0 hlocks hW adR_rf (by decide) dX3_isTrustedBefore_43
      · have hr := br_n c1 hr
        refine lv_iconst (v := (1 : Int32)) hx hb dX3_isTrustedBefore_38 (by decide) ?_
        refine lv_goto (tgt := 43) hx hb dX3_isTrustedBefore_39 (by decide) ?_
        rw [← Option.some.inj hr]
        exact xzret hx hb hr0 hlocks hW adR_rf (by decide) dX3_isTrustedBefore_43
  · have hr := br_n c1 hr
    refine lv_aload_n hx hb dX3_isTrustedBefore_11 rfl (lv_at hl 1 rfl) ?_
    obtain ⟨r_5, hc12, hr⟩ := ob1_e hr
    refine xk_i (va_runV (As := []) (rest := []) ⟨hx, hb, hml, hown, hts⟩ (c_X3_fails l D cA ad M a1 ha1 hc12) (cwV 0 hts gX3_isTrustedBefore_X3_fails rfl rfl rfl (by decide +kernel) ⟨Nat.le_of_ble_eq_true rfl, Nat.le_of_ble_eq_true rfl⟩) (xpreV hK hW (k := a1) ha1 (by decide) rfl) rfl rfl hl.1 rfl (lv_room (Nat.le_of_ble_eq_true rfl)) dX3_isTrustedBefore_12 ⟨Nat.le_of_ble_eq_true rfl, Nat.le_of_ble_eq_true rfl⟩) hW (fun H locs hW => ?_)
    obtain ⟨hz15, hr⟩ := chk_e hr
    rw [← Option.some.inj hr]
    exact xzret hx hb hr0 hlocks hW adR_rf hz15 dX3_isTrustedBefore_15

set_option maxHeartbeats 4000000 in
set_option maxRecDepth 100000 in
theorem c_X4_find (l : Launch) (D : va_G) (cA : Nat → ClassId) (ad : Nat → Nat) (M : Mm) (x1 : Int32) {r : Int32} (hr : f_X4_find x1 M = some r) : Met l yX4_find wsX4_find ({ frames := 0, cells := 0, slots := 0, locals := 0 }) (PcX D true cA ad M [.ref (ad 10), .int x1]) (QiX false D true cA ad r M) 0 0 (AX true ad) := by
  refine Met.ofW (cc := cX4_find) (maxL := 3) (ret := (some .int)) (by decide) rfl ?_
  intro p e s m args below meth c s₁ B hml hv
  obtain ⟨hav, hP0, hK⟩ := hv
  have hx := B.exec
  have hb := B.bytes
  have hr0 := B.returns
  have hts := atoms_spec (ws := wsX4_find) B.pre
  have hown : s.vm.findClass RX4 = some m.cls := findClass_of_methodNamed B.named
  have hlocks := B.notSynchronized
  have hW := xstart hP0
  have hi4 : ∀ w ∈ wsX40, w ∈ wsX4_find := fun w h => List.mem_cons_of_mem _ (List.mem_append_right _ h)
  have hl := lv_entry ([.ref (ad 10), .int x1]) (n := 3) (Nat.le_of_ble_eq_true rfl)
  have hef := lg_entry_eq m ([.ref (ad 10), .int x1]) 3
  rw [← hav] at hef
  rw [hef]
  clear hef
  generalize (lg_sl ([.ref (ad 10), .int x1]) ++ List.replicate (3 - (lg_sl ([.ref (ad 10), .int x1])).length) Slot.unset).toArray = ls at hl ⊢
  have hl : lv_has ls 3 [(0, .ref (ad 10)), (1, .int x1)] := hl
  clear hP0
  unfold f_X4_find at hr
  refine lv_iconst (v := (0 : Int32)) hx hb dX4_find_0 (by decide) ?_
  refine lv_istore_n (lv' := [(2, .int (0 : Int32)), (0, .ref (ad 10)), (1, .int x1)]) hx hb dX4_find_1 rfl hl (by decide) rfl (fun ls hl => ?_)
  have hL2_1 : ∀ (n : Nat) (x2_1 : Int32) (H : Heap) (locs : List Loc) (ls : Array Slot), Xw D true cA ad M (AX true ad) s.heap H locs → lv_has ls 3 [(0, .ref (ad 10)), (1, .int x1), (2, .int x2_1)] → f_X4_find_L2 M x1 n x2_1 = some r → W p l e (headSpec wsX4_find { frames := 0, cells := 0, slots := 0, locals := 0 }).room s m args below meth c H locs 0 0 (MQ below (QiX false D true cA ad r M) args s 0 0 (AX true ad)) (F0 m 2 ls []) := by
    intro n
    induction n with
    | zero =>
      intro x2_1 H locs ls hW hl hr
      exact absurd hr (by simp [f_X4_find_L2])
    | succ n ih =>
      intro x2_1 H locs ls hW hl hr
      rw [f_X4_find_L2] at hr
      refine lv_iload_n hx hb dX4_find_2 rfl (lv_at hl 2 rfl) ?_
      refine lv_bipush (v := (6 : Int32)) hx hb dX4_find_3 (by decide) ?_
      refine lv_icmp_ge (tgt := 34) hx hb dX4_find_5 (by decide) (fun c1 => ?_) (fun c1 => ?_)
      · have hr := br_p c1 hr
        refine lv_iconst (v := (-1 : Int32)) hx hb dX4_find_34 (by decide) ?_
        rw [← Option.some.inj hr]
        exact xiret hx hb hr0 hlocks hW adR_rf dX4_find_35
      · have hr := br_n c1 hr
        refine lv_iload_n hx hb dX4_find_8 rfl (lv_at hl 2 rfl) ?_
        refine lv_aload_n hx hb dX4_find_9 rfl (lv_at hl 0 rfl) ?_
        refine g4_2 hx hb hts hi4 hown hK hW (k := 10) rfl (hts _ (wm 1 rfl)) dX4_find_10 ?_
        refine lv_icmp_ge (tgt := 34) hx hb dX4_find_13 (by decide) (fun c1 => ?_) (fun c1 => ?_)
        · have hr := br_p c1 hr
          refine lv_iconst (v := (-1 : Int32)) hx hb dX4_find_34 (by decide) ?_
          rw [← Option.some.inj hr]
          exact xiret hx hb hr0 hlocks hW adR_rf dX4_find_35
        · have hr := br_n c1 hr
          refine lv_aload_n hx hb dX4_find_16 rfl (lv_at hl 0 rfl) ?_
          refine g4_0 hx hb hts hi4 hown hK hW (k := 10) rfl (hts _ (wm 2 rfl)) dX4_find_17 ?_
          refine lv_iload_n hx hb dX4_find_20 rfl (lv_at hl 2 rfl) ?_
          obtain ⟨hn21, hr⟩ := chk_e hr
          refine xiald hx hb hK hW (k := 11) (t := 22) rfl (by decide) (by decide) rfl (n := 6) hn21 (jx := (ix x2_1)) rfl dX4_find_21 ?_
          refine lv_iload_n hx hb dX4_find_22 rfl (lv_at hl 1 rfl) ?_
          refine lv_icmp_ne (tgt := 28) hx hb dX4_find_23 (by decide) (fun c1 => ?_) (fun c1 => ?_)
          · have hr := br_n c1 hr
            obtain ⟨x2_2, ex2_2, hr⟩ := lt1_e hr
            refine lv_iinc (v := x2_2) (lv' := [(2, .int x2_2), (0, .ref (ad 10)), (1, .int x1)]) hx hb dX4_find_28 hl (k := 2) rfl (by rw [ex2_2]; rfl) (by decide) rfl (fun ls hl => ?_)
            refine lv_goto (tgt := 2) hx hb dX4_find_31 (by decide) ?_
            exact ih x2_2 _ _ _ hW (lv_sub hl [1, 2, 0] rfl) hr
          · have hr := br_p c1 hr
            refine lv_iload_n hx hb dX4_find_26 rfl (lv_at hl 2 rfl) ?_
            rw [← Option.some.inj hr]
            exact xiret hx hb hr0 hlocks hW adR_rf dX4_find_27
  exact hL2_1 1000 (0 : Int32) _ _ _ hW (lv_sub hl [1, 2, 0] rfl) hr

set_option maxHeartbeats 4000000 in
set_option maxRecDepth 100000 in
theorem c_X4_put (l : Launch) (D : va_G) (cA : Nat → ClassId) (ad : Nat → Nat) (M : Mm) (x1 : Int32) (x2 : Int32) {M' : Mm} (hr : f_X4_put x1 x2 M = some M') : Met l yX4_put wsX4_put ({ frames := 1, cells := 0, slots := 0, locals := 22 }) (PcX D true cA ad M [.ref (ad 10), .int x1, .int x2]) (QvX false D true cA ad M') 0 0 (AX true ad) := by
  refine Met.ofW (cc := cX4_put) (maxL := 6) (ret := none) (by decide) rfl ?_
  intro p e s m args below meth c s₁ B hml hv
  obtain ⟨hav, hP0, hK⟩ := hv
  have hx := B.exec
  have hb := B.bytes
  have hr0 := B.returns
  have hts := atoms_spec (ws := wsX4_put) B.pre
  have hown : s.vm.findClass RX4 = some m.cls := findClass_of_methodNamed B.named
  have hlocks := B.notSynchronized
  have hW := xstart hP0
  have hi4 : ∀ w ∈ wsX40, w ∈ wsX4_put := fun w h => List.mem_cons_of_mem _ (List.mem_append_right _ h)
  have hl := lv_entry ([.ref (ad 10), .int x1, .int x2]) (n := 6) (Nat.le_of_ble_eq_true rfl)
  have hef := lg_entry_eq m ([.ref (ad 10), .int x1, .int x2]) 6
  rw [← hav] at hef
  rw [hef]
  clear hef
  generalize (lg_sl ([.ref (ad 10), .int x1, .int x2]) ++ List.replicate (6 - (lg_sl ([.ref (ad 10), .int x1, .int x2])).length) Slot.unset).toArray = ls at hl ⊢
  have hl : lv_has ls 6 [(0, .ref (ad 10)), (1, .int x1), (2, .int x2)] := hl
  clear hP0
  unfold f_X4_put at hr
  refine lv_aload_n hx hb dX4_put_0 rfl (lv_at hl 0 rfl) ?_
  refine lv_iload_n hx hb dX4_put_1 rfl (lv_at hl 1 rfl) ?_
  obtain ⟨r_1, hc2, hr⟩ := ob1_e hr
  refine xk_i (va_runV (As := [.int x1]) (rest := []) ⟨hx, hb, hml, hown, hts⟩ (c_X4_find l D cA ad M x1 hc2) (cwV 1 hts gX4_put_X4_find rfl rfl rfl (by decide +kernel) ⟨Nat.le_of_ble_eq_true rfl, Nat.le_of_ble_eq_true rfl⟩) (xpreV hK hW (k := 10) rfl (by decide) rfl) rfl rfl hl.1 rfl (lv_room (Nat.le_of_ble_eq_true rfl)) dX4_put_2 ⟨Nat.le_of_ble_eq_true rfl, Nat.le_of_ble_eq_true rfl⟩) hW (fun H locs hW => ?_)
  refine lv_istore_n (lv' := [(3, .int r_1), (0, .ref (ad 10)), (1, .int x1), (2, .int x2)]) hx hb dX4_put_5 rfl hl (by decide) rfl (fun ls hl => ?_)
  refine lv_iload_n hx hb dX4_put_6 rfl (lv_at hl 0 rfl) ?_
  refine lv_if_lt (tgt := 24) hx hb dX4_put_7 (by decide) (fun c1 => ?_) (fun c1 => ?_)
  · have hr := br_p c1 hr
    refine lv_aload_n hx hb dX4_put_24 rfl (lv_at hl 1 rfl) ?_
    refine g4_2 hx hb hts hi4 hown hK hW (k := 10) rfl (hts _ (wm 2 rfl)) dX4_put_25 ?_
    refine lv_if_lt (tgt := 40) hx hb dX4_put_28 (by decide) (fun c1 => ?_) (fun c1 => ?_)
    · have hr := br_p c1 hr
      rw [← Option.some.inj hr]
      exact xvret hx hb hr0 hlocks hW adR_rf dX4_put_40
    · have hr := br_n c1 hr
      refine lv_aload_n hx hb dX4_put_31 rfl (lv_at hl 1 rfl) ?_
      refine g4_2 hx hb hts hi4 hown hK hW (k := 10) rfl (hts _ (wm 2 rfl)) dX4_put_32 ?_
      refine lv_bipush (v := (6 : Int32)) hx hb dX4_put_35 (by decide) ?_
      refine lv_icmp_lt (tgt := 41) hx hb dX4_put_37 (by decide) (fun c1 => ?_) (fun c1 => ?_)
      · have hr := br_p c1 hr
        refine lv_aload_n hx hb dX4_put_41 rfl (lv_at hl 1 rfl) ?_
        refine g4_2 hx hb hts hi4 hown hK hW (k := 10) rfl (hts _ (wm 2 rfl)) dX4_put_42 ?_
        obtain ⟨x4_2, ex4_2, hr⟩ := lt1_e hr
        rw [← ex4_2]
        refine lv_istore (lv' := [(4, .int x4_2), (3, .int r_1), (0, .ref (ad 10)), (1, .int x1), (2, .int x2)]) hx hb dX4_put_45 hl (by decide) rfl (fun ls hl => ?_)
        refine lv_aload_n hx hb dX4_put_47 rfl (lv_at hl 2 rfl) ?_
        refine g4_2 hx hb hts hi4 hown hK hW (k := 10) rfl (hts _ (wm 2 rfl)) dX4_put_48 ?_
        obtain ⟨x5_3, ex5_3, hr⟩ := lt1_e hr
        rw [← ex5_3]
        refine lv_istore (lv' := [(5, .int x5_3), (4, .int x4_2), (3, .int r_1), (0, .ref (ad 10)), (1, .int x1), (2, .int x2)]) hx hb dX4_put_51 hl (by decide) rfl (fun ls hl => ?_)
        have hL53_1 : ∀ (n : Nat) (x4_4 : Int32) (x5_5 : Int32) (M_6 : Mm) (H : Heap) (locs : List Loc) (ls : Array Slot) (x4_7 : Int32) (M_8 : Mm), Xw D true cA ad M_6 (AX true ad) s.heap H locs → lv_has ls 6 [(0, .ref (ad 10)), (1, .int x1), (2, .int x2), (4, .int x4_4), (5, .int x5_5)] → f_X4_put_L53 x1 n x4_4 x5_5 M_6 = some (x4_7, M_8) → (∀ (H : Heap) (locs : List Loc) (ls : Array Slot), Xw D true cA ad M_8 (AX true ad) s.heap H locs → lv_has ls 6 [(0, .ref (ad 10)), (1, .int x1), (2, .int x2), (4, .int x4_7)] → W p l e (headSpec wsX4_put { frames := 1, cells := 0, slots := 0, locals := 22 }).room s m args below meth c H locs 0 0 (MQ below (QvX false D true cA ad M') args s 0 0 (AX true ad)) (F0 m 115 ls [])) → W p l e (headSpec wsX4_put { frames := 1, cells := 0, slots := 0, locals := 22 }).room s m args below meth c H locs 0 0 (MQ below (QvX false D true cA ad M') args s 0 0 (AX true ad)) (F0 m 53 ls []) := by
          intro n
          induction n with
          | zero =>
            intro x4_4 x5_5 M_6 H locs ls x4_7 M_8 hW hl hr hk
            exact absurd hr (by simp [f_X4_put_L53])
          | succ n ih =>
            intro x4_4 x5_5 M_6 H locs ls x4_7 M_8 hW hl hr hk
            rw [f_X4_put_L53] at hr
            refine lv_iload hx hb dX4_put_53 (lv_at hl 4 rfl) ?_
            refine lv_if_le (tgt := 115) hx hb dX4_put_55 (by decide) (fun c1 => ?_) (fun c1 => ?_)
            · have hr := br_p c1 hr
              obtain ⟨e1, e2⟩ := Prod.mk.inj (Option.some.inj hr)
              subst e1
              subst e2
              exact hk _ _ _ hW (lv_sub hl [0, 1, 2, 3] rfl)
            · have hr := br_n c1 hr
              refine lv_aload_n hx hb dX4_put_58 rfl (lv_at hl 0 rfl) ?_
              refine g4_0 hx hb hts hi4 hown hK hW (k := 10) rfl (hts _ (wm 3 rfl)) dX4_put_59 ?_
              refine lv_iload hx hb dX4_put_62 (lv_at hl 4 rfl) ?_
              refine lv_iconst (v := (1 : Int32)) hx hb dX4_put_64 (by decide) ?_
              refine lv_isub hx hb dX4_put_65 ?_
              obtain ⟨hn66, hr⟩ := chk_e hr
              refine xiald hx hb hK hW (k := 11) (t := 22) rfl (by decide) (by decide) rfl (n := 6) hn66 (jx := (ix (x5_5 - (1 : Int32)))) rfl dX4_put_66 ?_
              refine lv_iload_n hx hb dX4_put_67 rfl (lv_at hl 1 rfl) ?_
              refine lv_icmp_le (tgt := 115) hx hb dX4_put_68 (by decide) (fun c1 => ?_) (fun c1 => ?_)
              · have hr := br_p c1 hr
                obtain ⟨e1, e2⟩ := Prod.mk.inj (Option.some.inj hr)
                subst e1
                subst e2
                exact hk _ _ _ hW (lv_sub hl [0, 1, 2, 3] rfl)
              · have hr := br_n c1 hr
                refine lv_aload_n hx hb dX4_put_71 rfl (lv_at hl 0 rfl) ?_
                refine g4_0 hx hb hts hi4 hown hK hW (k := 10) rfl (hts _ (wm 3 rfl)) dX4_put_72 ?_
                refine lv_iload hx hb dX4_put_75 (lv_at hl 4 rfl) ?_
                refine lv_aload_n hx hb dX4_put_77 rfl (lv_at hl 0 rfl) ?_
                refine g4_0 hx hb hts hi4 hown hK hW (k := 10) rfl (hts _ (wm 3 rfl)) dX4_put_78 ?_
                refine lv_iload hx hb dX4_put_81 (lv_at hl 4 rfl) ?_
                refine lv_iconst (v := (1 : Int32)) hx hb dX4_put_83 (by decide) ?_
                refine lv_isub hx hb dX4_put_84 ?_
                obtain ⟨hn85, hr⟩ := chk_e hr
                refine xiald hx hb hK hW (k := 11) (t := 22) rfl (by decide) (by decide) rfl (n := 6) hn85 (jx := (ix (x5_5 - (1 : Int32)))) rfl dX4_put_85 ?_
                obtain ⟨hn86, hr⟩ := chk_e hr
                obtain ⟨M_9, eM_9, hr⟩ := lt1_e hr
                refine xiast hx hb hK hW (k := 11) (t := 22) rfl (by decide) (by decide) rfl (n := 6) hn86 (jx := (ix x5_5)) rfl dX4_put_86 (fun H locs hW => ?_)
                rw [← eM_9] at hW
                refine lv_aload_n hx hb dX4_put_87 rfl (lv_at hl 0 rfl) ?_
                refine g4_1 hx hb hts hi4 hown hK hW (k := 10) rfl (hts _ (wm 1 rfl)) dX4_put_88 ?_
                refine lv_iload hx hb dX4_put_91 (lv_at hl 4 rfl) ?_
                refine lv_aload_n hx hb dX4_put_93 rfl (lv_at hl 0 rfl) ?_
                refine g4_1 hx hb hts hi4 hown hK hW (k := 10) rfl (hts _ (wm 1 rfl)) dX4_put_94 ?_
                refine lv_iload hx hb dX4_put_97 (lv_at hl 4 rfl) ?_
                refine lv_iconst (v := (1 : Int32)) hx hb dX4_put_99 (by decide) ?_
                refine lv_isub hx hb dX4_put_100 ?_
                obtain ⟨hn101, hr⟩ := chk_e hr
                refine xiald hx hb hK hW (k := 12) (t := 22) rfl (by decide) (by decide) rfl (n := 6) hn101 (jx := (ix (x5_5 - (1 : Int32)))) rfl dX4_put_101 ?_
                obtain ⟨hn102, hr⟩ := chk_e hr
                obtain ⟨M_10, eM_10, hr⟩ := lt1_e hr
                refine xiast hx hb hK hW (k := 12) (t := 22) rfl (by decide) (by decide) rfl (n := 6) hn102 (jx := (ix x5_5)) rfl dX4_put_102 (fun H locs hW => ?_)
                rw [← eM_10] at hW
                refine lv_iload hx hb dX4_put_103 (lv_at hl 4 rfl) ?_
                refine lv_iconst (v := (1 : Int32)) hx hb dX4_put_105 (by decide) ?_
                refine lv_isub hx hb dX4_put_106 ?_
                obtain ⟨x4_11, ex4_11, hr⟩ := lt1_e hr
                rw [← ex4_11]
                refine lv_istore (lv' := [(4, .int x4_11), (0, .ref (ad 10)), (1, .int x1), (2, .int x2), (5, .int x5_5)]) hx hb dX4_put_107 hl (by decide) rfl (fun ls hl => ?_)
                obtain ⟨x5_12, ex5_12, hr⟩ := lt1_e hr
                refine lv_iinc (v := x5_12) (lv' := [(5, .int x5_12), (4, .int x4_11), (0, .ref (ad 10)), (1, .int x1), (2, .int x2)]) hx hb dX4_put_109 hl (k := 4) rfl (by rw [ex5_12]; rfl) (by decide) rfl (fun ls hl => ?_)
                refine lv_goto (tgt := 53) hx hb dX4_put_112 (by decide) ?_
                exact ih x4_11 x5_12 M_10 _ _ _ _ _ hW (lv_sub hl [2, 3, 4, 1, 0] rfl) hr hk
        obtain ⟨x4_7, M_8, hr, hr3⟩ := ob2_e hr
        refine hL53_1 1000 x4_2 x5_3 M _ _ _ x4_7 M_8 hW (lv_sub hl [3, 4, 5, 1, 0] rfl) hr (fun H locs ls hW hl => ?_)
        clear hr
        have hr := hr3
        refine lv_aload_n hx hb dX4_put_115 rfl (lv_at hl 0 rfl) ?_
        refine g4_0 hx hb hts hi4 hown hK hW (k := 10) rfl (hts _ (wm 3 rfl)) dX4_put_116 ?_
        refine lv_iload hx hb dX4_put_119 (lv_at hl 3 rfl) ?_
        refine lv_iload_n hx hb dX4_put_121 rfl (lv_at hl 1 rfl) ?_
        obtain ⟨hn122, hr⟩ := chk_e hr
        obtain ⟨M_13, eM_13, hr⟩ := lt1_e hr
        refine xiast hx hb hK hW (k := 11) (t := 22) rfl (by decide) (by decide) rfl (n := 6) hn122 (jx := (ix x4_7)) rfl dX4_put_122 (fun H locs hW => ?_)
        rw [← eM_13] at hW
        refine lv_aload_n hx hb dX4_put_123 rfl (lv_at hl 0 rfl) ?_
        refine g4_1 hx hb hts hi4 hown hK hW (k := 10) rfl (hts _ (wm 1 rfl)) dX4_put_124 ?_
        refine lv_iload hx hb dX4_put_127 (lv_at hl 3 rfl) ?_
        refine lv_iload_n hx hb dX4_put_129 rfl (lv_at hl 2 rfl) ?_
        obtain ⟨hn130, hr⟩ := chk_e hr
        obtain ⟨M_14, eM_14, hr⟩ := lt1_e hr
        refine xiast hx hb hK hW (k := 12) (t := 22) rfl (by decide) (by decide) rfl (n := 6) hn130 (jx := (ix x4_7)) rfl dX4_put_130 (fun H locs hW => ?_)
        rw [← eM_14] at hW
        refine lv_aload_n hx hb dX4_put_131 rfl (lv_at hl 0 rfl) ?_
        refine lv_dup hx hb dX4_put_132 rfl ?_
        refine g4_2 hx hb hts hi4 hown hK hW (k := 10) rfl (hts _ (wm 2 rfl)) dX4_put_133 ?_
        refine lv_iconst (v := (1 : Int32)) hx hb dX4_put_136 (by decide) ?_
        refine lv_iadd hx hb dX4_put_137 ?_
        obtain ⟨M_15, eM_15, hr⟩ := lt1_e hr
        refine p4_2 hx hb hts hi4 hown hK hW (k := 10) rfl (hts _ (wm 2 rfl)) dX4_put_138 (fun H locs hW => ?_)
        rw [← eM_15] at hW
        rw [← Option.some.inj hr]
        exact xvret hx hb hr0 hlocks hW adR_rf dX4_put_141
      · have hr := br_n c1 hr
        rw [← Option.some.inj hr]
        exact xvret hx hb hr0 hlocks hW adR_rf dX4_put_40
  · have hr := br_n c1 hr
    refine lv_iload_n hx hb dX4_put_10 rfl (lv_at hl 0 rfl) ?_
    refine lv_bipush (v := (6 : Int32)) hx hb dX4_put_11 (by decide) ?_
    refine lv_icmp_ge (tgt := 24) hx hb dX4_put_13 (by decide) (fun c1 => ?_) (fun c1 => ?_)
    · have hr := br_p c1 hr
      refine lv_aload_n hx hb dX4_put_24 rfl (lv_at hl 1 rfl) ?_
      refine g4_2 hx hb hts hi4 hown hK hW (k := 10) rfl (hts _ (wm 2 rfl)) dX4_put_25 ?_
      refine lv_if_lt (tgt := 40) hx hb dX4_put_28 (by decide) (fun c1 => ?_) (fun c1 => ?_)
      · have hr := br_p c1 hr
        rw [← Option.some.inj hr]
        exact xvret hx hb hr0 hlocks hW adR_rf dX4_put_40
      · have hr := br_n c1 hr
        refine lv_aload_n hx hb dX4_put_31 rfl (lv_at hl 1 rfl) ?_
        refine g4_2 hx hb hts hi4 hown hK hW (k := 10) rfl (hts _ (wm 2 rfl)) dX4_put_32 ?_
        refine lv_bipush (v := (6 : Int32)) hx hb dX4_put_35 (by decide) ?_
        refine lv_icmp_lt (tgt := 41) hx hb dX4_put_37 (by decide) (fun c1 => ?_) (fun c1 => ?_)
        · have hr := br_p c1 hr
          refine lv_aload_n hx hb dX4_put_41 rfl (lv_at hl 1 rfl) ?_
          refine g4_2 hx hb hts hi4 hown hK hW (k := 10) rfl (hts _ (wm 2 rfl)) dX4_put_42 ?_
          obtain ⟨x4_16, ex4_16, hr⟩ := lt1_e hr
          rw [← ex4_16]
          refine lv_istore (lv' := [(4, .int x4_16), (3, .int r_1), (0, .ref (ad 10)), (1, .int x1), (2, .int x2)]) hx hb dX4_put_45 hl (by decide) rfl (fun ls hl => ?_)
          refine lv_aload_n hx hb dX4_put_47 rfl (lv_at hl 2 rfl) ?_
          refine g4_2 hx hb hts hi4 hown hK hW (k := 10) rfl (hts _ (wm 2 rfl)) dX4_put_48 ?_
          obtain ⟨x5_17, ex5_17, hr⟩ := lt1_e hr
          rw [← ex5_17]
          refine lv_istore (lv' := [(5, .int x5_17), (4, .int x4_16), (3, .int r_1), (0, .ref (ad 10)), (1, .int x1), (2, .int x2)]) hx hb dX4_put_51 hl (by decide) rfl (fun ls hl => ?_)
          have hL53_2 : ∀ (n : Nat) (x4_18 : Int32) (x5_19 : Int32) (M_20 : Mm) (H : Heap) (locs : List Loc) (ls : Array Slot) (x4_21 : Int32) (M_22 : Mm), Xw D true cA ad M_20 (AX true ad) s.heap H locs → lv_has ls 6 [(0, .ref (ad 10)), (1, .int x1), (2, .int x2), (4, .int x4_18), (5, .int x5_19)] → f_X4_put_L53_2 x1 n x4_18 x5_19 M_20 = some (x4_21, M_22) → (∀ (H : Heap) (locs : List Loc) (ls : Array Slot), Xw D true cA ad M_22 (AX true ad) s.heap H locs → lv_has ls 6 [(0, .ref (ad 10)), (1, .int x1), (2, .int x2), (4, .int x4_21)] → W p l e (headSpec wsX4_put { frames := 1, cells := 0, slots := 0, locals := 22 }).room s m args below meth c H locs 0 0 (MQ below (QvX false D true cA ad M') args s 0 0 (AX true ad)) (F0 m 115 ls [])) → W p l e (headSpec wsX4_put { frames := 1, cells := 0, slots := 0, locals := 22 }).room s m args below meth c H locs 0 0 (MQ below (QvX false D true cA ad M') args s 0 0 (AX true ad)) (F0 m 53 ls []) := by
            intro n
            induction n with
            | zero =>
              intro x4_18 x5_19 M_20 H locs ls x4_21 M_22 hW hl hr hk
              exact absurd hr (by simp [f_X4_put_L53_2])
            | succ n ih =>
              intro x4_18 x5_19 M_20 H locs ls x4_21 M_22 hW hl hr hk
              rw [f_X4_put_L53_2] at hr
              refine lv_iload hx hb dX4_put_53 (lv_at hl 4 rfl) ?_
              refine lv_if_le (tgt := 115) hx hb dX4_put_55 (by decide) (fun c1 => ?_) (fun c1 => ?_)
              · have hr := br_p c1 hr
                obtain ⟨e1, e2⟩ := Prod.mk.inj (Option.some.inj hr)
                subst e1
                subst e2
                exact hk _ _ _ hW (lv_sub hl [0, 1, 2, 3] rfl)
              · have hr := br_n c1 hr
                refine lv_aload_n hx hb dX4_put_58 rfl (lv_at hl 0 rfl) ?_
                refine g4_0 hx hb hts hi4 hown hK hW (k := 10) rfl (hts _ (wm 3 rfl)) dX4_put_59 ?_
                refine lv_iload hx hb dX4_put_62 (lv_at hl 4 rfl) ?_
                refine lv_iconst (v := (1 : Int32)) hx hb dX4_put_64 (by decide) ?_
                refine lv_isub hx hb dX4_put_65 ?_
                obtain ⟨hn66, hr⟩ := chk_e hr
                refine xiald hx hb hK hW (k := 11) (t := 22) rfl (by decide) (by decide) rfl (n := 6) hn66 (jx := (ix (x5_19 - (1 : Int32)))) rfl dX4_put_66 ?_
                refine lv_iload_n hx hb dX4_put_67 rfl (lv_at hl 1 rfl) ?_
                refine lv_icmp_le (tgt := 115) hx hb dX4_put_68 (by decide) (fun c1 => ?_) (fun c1 => ?_)
                · have hr := br_p c1 hr
                  obtain ⟨e1, e2⟩ := Prod.mk.inj (Option.some.inj hr)
                  subst e1
                  subst e2
                  exact hk _ _ _ hW (lv_sub hl [0, 1, 2, 3] rfl)
                · have hr := br_n c1 hr
                  refine lv_aload_n hx hb dX4_put_71 rfl (lv_at hl 0 rfl) ?_
                  refine g4_0 hx hb hts hi4 hown hK hW (k := 10) rfl (hts _ (wm 3 rfl)) dX4_put_72 ?_
                  refine lv_iload hx hb dX4_put_75 (lv_at hl 4 rfl) ?_
                  refine lv_aload_n hx hb dX4_put_77 rfl (lv_at hl 0 rfl) ?_
                  refine g4_0 hx hb hts hi4 hown hK hW (k := 10) rfl (hts _ (wm 3 rfl)) dX4_put_78 ?_
                  refine lv_iload hx hb dX4_put_81 (lv_at hl 4 rfl) ?_
                  refine lv_iconst (v := (1 : Int32)) hx hb dX4_put_83 (by decide) ?_
                  refine lv_isub hx hb dX4_put_84 ?_
                  obtain ⟨hn85, hr⟩ := chk_e hr
                  refine xiald hx hb hK hW (k := 11) (t := 22) rfl (by decide) (by decide) rfl (n := 6) hn85 (jx := (ix (x5_19 - (1 : Int32)))) rfl dX4_put_85 ?_
                  obtain ⟨hn86, hr⟩ := chk_e hr
                  obtain ⟨M_23, eM_23, hr⟩ := lt1_e hr
                  refine xiast hx hb hK hW (k := 11) (t := 22) rfl (by decide) (by decide) rfl (n := 6) hn86 (jx := (ix x5_19)) rfl dX4_put_86 (fun H locs hW => ?_)
                  rw [← eM_23] at hW
                  refine lv_aload_n hx hb dX4_put_87 rfl (lv_at hl 0 rfl) ?_
                  refine g4_1 hx hb hts hi4 hown hK hW (k := 10) rfl (hts _ (wm 1 rfl)) dX4_put_88 ?_
                  refine lv_iload hx hb dX4_put_91 (lv_at hl 4 rfl) ?_
                  refine lv_aload_n hx hb dX4_put_93 rfl (lv_at hl 0 rfl) ?_
                  refine g4_1 hx hb hts hi4 hown hK hW (k := 10) rfl (hts _ (wm 1 rfl)) dX4_put_94 ?_
                  refine lv_iload hx hb dX4_put_97 (lv_at hl 4 rfl) ?_
                  refine lv_iconst (v := (1 : Int32)) hx hb dX4_put_99 (by decide) ?_
                  refine lv_isub hx hb dX4_put_100 ?_
                  obtain ⟨hn101, hr⟩ := chk_e hr
                  refine xiald hx hb hK hW (k := 12) (t := 22) rfl (by decide) (by decide) rfl (n := 6) hn101 (jx := (ix (x5_19 - (1 : Int32)))) rfl dX4_put_101 ?_
                  obtain ⟨hn102, hr⟩ := chk_e hr
                  obtain ⟨M_24, eM_24, hr⟩ := lt1_e hr
                  refine xiast hx hb hK hW (k := 12) (t := 22) rfl (by decide) (by decide) rfl (n := 6) hn102 (jx := (ix x5_19)) rfl dX4_put_102 (fun H locs hW => ?_)
                  rw [← eM_24] at hW
                  refine lv_iload hx hb dX4_put_103 (lv_at hl 4 rfl) ?_
                  refine lv_iconst (v := (1 : Int32)) hx hb dX4_put_105 (by decide) ?_
                  refine lv_isub hx hb dX4_put_106 ?_
                  obtain ⟨x4_25, ex4_25, hr⟩ := lt1_e hr
                  rw [← ex4_25]
                  refine lv_istore (lv' := [(4, .int x4_25), (0, .ref (ad 10)), (1, .int x1), (2, .int x2), (5, .int x5_19)]) hx hb dX4_put_107 hl (by decide) rfl (fun ls hl => ?_)
                  obtain ⟨x5_26, ex5_26, hr⟩ := lt1_e hr
                  refine lv_iinc (v := x5_26) (lv' := [(5, .int x5_26), (4, .int x4_25), (0, .ref (ad 10)), (1, .int x1), (2, .int x2)]) hx hb dX4_put_109 hl (k := 4) rfl (by rw [ex5_26]; rfl) (by decide) rfl (fun ls hl => ?_)
                  refine lv_goto (tgt := 53) hx hb dX4_put_112 (by decide) ?_
                  exact ih x4_25 x5_26 M_24 _ _ _ _ _ hW (lv_sub hl [2, 3, 4, 1, 0] rfl) hr hk
          obtain ⟨x4_21, M_22, hr, hr3⟩ := ob2_e hr
          refine hL53_2 1000 x4_16 x5_17 M _ _ _ x4_21 M_22 hW (lv_sub hl [3, 4, 5, 1, 0] rfl) hr (fun H locs ls hW hl => ?_)
          clear hr
          have hr := hr3
          refine lv_aload_n hx hb dX4_put_115 rfl (lv_at hl 0 rfl) ?_
          refine g4_0 hx hb hts hi4 hown hK hW (k := 10) rfl (hts _ (wm 3 rfl)) dX4_put_116 ?_
          refine lv_iload hx hb dX4_put_119 (lv_at hl 3 rfl) ?_
          refine lv_iload_n hx hb dX4_put_121 rfl (lv_at hl 1 rfl) ?_
          obtain ⟨hn122, hr⟩ := chk_e hr
          obtain ⟨M_27, eM_27, hr⟩ := lt1_e hr
          refine xiast hx hb hK hW (k := 11) (t := 22) rfl (by decide) (by decide) rfl (n := 6) hn122 (jx := (ix x4_21)) rfl dX4_put_122 (fun H locs hW => ?_)
          rw [← eM_27] at hW
          refine lv_aload_n hx hb dX4_put_123 rfl (lv_at hl 0 rfl) ?_
          refine g4_1 hx hb hts hi4 hown hK hW (k := 10) rfl (hts _ (wm 1 rfl)) dX4_put_124 ?_
          refine lv_iload hx hb dX4_put_127 (lv_at hl 3 rfl) ?_
          refine lv_iload_n hx hb dX4_put_129 rfl (lv_at hl 2 rfl) ?_
          obtain ⟨hn130, hr⟩ := chk_e hr
          obtain ⟨M_28, eM_28, hr⟩ := lt1_e hr
          refine xiast hx hb hK hW (k := 12) (t := 22) rfl (by decide) (by decide) rfl (n := 6) hn130 (jx := (ix x4_21)) rfl dX4_put_130 (fun H locs hW => ?_)
          rw [← eM_28] at hW
          refine lv_aload_n hx hb dX4_put_131 rfl (lv_at hl 0 rfl) ?_
          refine lv_dup hx hb dX4_put_132 rfl ?_
          refine g4_2 hx hb hts hi4 hown hK hW (k := 10) rfl (hts _ (wm 2 rfl)) dX4_put_133 ?_
          refine lv_iconst (v := (1 : Int32)) hx hb dX4_put_136 (by decide) ?_
          refine lv_iadd hx hb dX4_put_137 ?_
          obtain ⟨M_29, eM_29, hr⟩ := lt1_e hr
          refine p4_2 hx hb hts hi4 hown hK hW (k := 10) rfl (hts _ (wm 2 rfl)) dX4_put_138 (fun H locs hW => ?_)
          rw [← eM_29] at hW
          rw [← Option.some.inj hr]
          exact xvret hx hb hr0 hlocks hW adR_rf dX4_put_141
        · have hr := br_n c1 hr
          rw [← Option.some.inj hr]
          exact xvret hx hb hr0 hlocks hW adR_rf dX4_put_40
    · have hr := br_n c1 hr
      refine lv_aload_n hx hb dX4_put_16 rfl (lv_at hl 1 rfl) ?_
      refine g4_1 hx hb hts hi4 hown hK hW (k := 10) rfl (hts _ (wm 1 rfl)) dX4_put_17 ?_
      refine lv_iload_n hx hb dX4_put_20 rfl (lv_at hl 0 rfl) ?_
      refine lv_iload_n hx hb dX4_put_21 rfl (lv_at hl 3 rfl) ?_
      obtain ⟨hn22, hr⟩ := chk_e hr
      obtain ⟨M_30, eM_30, hr⟩ := lt1_e hr
      refine xiast hx hb hK hW (k := 12) (t := 22) rfl (by decide) (by decide) rfl (n := 6) hn22 (jx := (ix r_1)) rfl dX4_put_22 (fun H locs hW => ?_)
      rw [← eM_30] at hW
      rw [← Option.some.inj hr]
      exact xvret hx hb hr0 hlocks hW adR_rf dX4_put_23

set_option maxHeartbeats 4000000 in
set_option maxRecDepth 100000 in
theorem c_X4_take (l : Launch) (D : va_G) (cA : Nat → ClassId) (ad : Nat → Nat) (M : Mm) (x1 : Int32) {r : Int32} {M' : Mm} (hr : f_X4_take x1 M = some (r, M')) : Met l yX4_take wsX4_take ({ frames := 0, cells := 0, slots := 0, locals := 0 }) (PcX D true cA ad M [.ref (ad 10), .int x1]) (QiX false D true cA ad r M') 0 0 (AX true ad) := by
  refine Met.ofW (cc := cX4_take) (maxL := 4) (ret := (some .int)) (by decide) rfl ?_
  intro p e s m args below meth c s₁ B hml hv
  obtain ⟨hav, hP0, hK⟩ := hv
  have hx := B.exec
  have hb := B.bytes
  have hr0 := B.returns
  have hts := atoms_spec (ws := wsX4_take) B.pre
  have hown : s.vm.findClass RX4 = some m.cls := findClass_of_methodNamed B.named
  have hlocks := B.notSynchronized
  have hW := xstart hP0
  have hi4 : ∀ w ∈ wsX40, w ∈ wsX4_take := fun w h => List.mem_cons_of_mem _ (List.mem_append_right _ h)
  have hl := lv_entry ([.ref (ad 10), .int x1]) (n := 4) (Nat.le_of_ble_eq_true rfl)
  have hef := lg_entry_eq m ([.ref (ad 10), .int x1]) 4
  rw [← hav] at hef
  rw [hef]
  clear hef
  generalize (lg_sl ([.ref (ad 10), .int x1]) ++ List.replicate (4 - (lg_sl ([.ref (ad 10), .int x1])).length) Slot.unset).toArray = ls at hl ⊢
  have hl : lv_has ls 4 [(0, .ref (ad 10)), (1, .int x1)] := hl
  clear hP0
  unfold f_X4_take at hr
  refine lv_iload_n hx hb dX4_take_0 rfl (lv_at hl 1 rfl) ?_
  refine lv_if_lt (tgt := 18) hx hb dX4_take_1 (by decide) (fun c1 => ?_) (fun c1 => ?_)
  · have hr := br_p c1 hr
    refine lv_ldc (v := (-2000000003 : Int32)) hx hb hown (hts _ (wm 2 rfl)) dX4_take_18 ?_
    obtain ⟨e1, e2⟩ := Prod.mk.inj (Option.some.inj hr)
    rw [← e1, ← e2]
    exact xiret hx hb hr0 hlocks hW adR_rf dX4_take_20
  · have hr := br_n c1 hr
    refine lv_iload_n hx hb dX4_take_4 rfl (lv_at hl 1 rfl) ?_
    refine lv_aload_n hx hb dX4_take_5 rfl (lv_at hl 0 rfl) ?_
    refine g4_2 hx hb hts hi4 hown hK hW (k := 10) rfl (hts _ (wm 1 rfl)) dX4_take_6 ?_
    refine lv_icmp_ge (tgt := 18) hx hb dX4_take_9 (by decide) (fun c1 => ?_) (fun c1 => ?_)
    · have hr := br_p c1 hr
      refine lv_ldc (v := (-2000000003 : Int32)) hx hb hown (hts _ (wm 2 rfl)) dX4_take_18 ?_
      obtain ⟨e1, e2⟩ := Prod.mk.inj (Option.some.inj hr)
      rw [← e1, ← e2]
      exact xiret hx hb hr0 hlocks hW adR_rf dX4_take_20
    · have hr := br_n c1 hr
      refine lv_iload_n hx hb dX4_take_12 rfl (lv_at hl 1 rfl) ?_
      refine lv_bipush (v := (6 : Int32)) hx hb dX4_take_13 (by decide) ?_
      refine lv_icmp_lt (tgt := 21) hx hb dX4_take_15 (by decide) (fun c1 => ?_) (fun c1 => ?_)
      · have hr := br_p c1 hr
        refine lv_aload_n hx hb dX4_take_21 rfl (lv_at hl 0 rfl) ?_
        refine g4_1 hx hb hts hi4 hown hK hW (k := 10) rfl (hts _ (wm 3 rfl)) dX4_take_22 ?_
        refine lv_iload_n hx hb dX4_take_25 rfl (lv_at hl 1 rfl) ?_
        obtain ⟨hn26, hr⟩ := chk_e hr
        refine xiald hx hb hK hW (k := 12) (t := 22) rfl (by decide) (by decide) rfl (n := 6) hn26 (jx := (ix x1)) rfl dX4_take_26 ?_
        obtain ⟨x2_1, ex2_1, hr⟩ := lt1_e hr
        rw [← ex2_1]
        refine lv_istore_n (lv' := [(2, .int x2_1), (0, .ref (ad 10)), (1, .int x1)]) hx hb dX4_take_27 rfl hl (by decide) rfl (fun ls hl => ?_)
        refine lv_iload_n hx hb dX4_take_28 rfl (lv_at hl 2 rfl) ?_
        refine lv_iconst (v := (1 : Int32)) hx hb dX4_take_29 (by decide) ?_
        refine lv_iadd hx hb dX4_take_30 ?_
        obtain ⟨x3_2, ex3_2, hr⟩ := lt1_e hr
        rw [← ex3_2]
        refine lv_istore_n (lv' := [(3, .int x3_2), (2, .int x2_1), (0, .ref (ad 10)), (1, .int x1)]) hx hb dX4_take_31 rfl hl (by decide) rfl (fun ls hl => ?_)
        have hL32_1 : ∀ (n : Nat) (x3_3 : Int32) (M_4 : Mm) (H : Heap) (locs : List Loc) (ls : Array Slot) (M_5 : Mm), Xw D true cA ad M_4 (AX true ad) s.heap H locs → lv_has ls 4 [(2, .int x2_1), (0, .ref (ad 10)), (3, .int x3_3)] → f_X4_take_L32 n x3_3 M_4 = some M_5 → (∀ (H : Heap) (locs : List Loc) (ls : Array Slot), Xw D true cA ad M_5 (AX true ad) s.heap H locs → lv_has ls 4 [(2, .int x2_1), (0, .ref (ad 10))] → W p l e (headSpec wsX4_take { frames := 0, cells := 0, slots := 0, locals := 0 }).room s m args below meth c H locs 0 0 (MQ below (QiX false D true cA ad r M') args s 0 0 (AX true ad)) (F0 m 80 ls [])) → W p l e (headSpec wsX4_take { frames := 0, cells := 0, slots := 0, locals := 0 }).room s m args below meth c H locs 0 0 (MQ below (QiX false D true cA ad r M') args s 0 0 (AX true ad)) (F0 m 32 ls []) := by
          intro n
          induction n with
          | zero =>
            intro x3_3 M_4 H locs ls M_5 hW hl hr hk
            exact absurd hr (by simp [f_X4_take_L32])
          | succ n ih =>
            intro x3_3 M_4 H locs ls M_5 hW hl hr hk
            rw [f_X4_take_L32] at hr
            refine lv_iload_n hx hb dX4_take_32 rfl (lv_at hl 2 rfl) ?_
            refine lv_bipush (v := (6 : Int32)) hx hb dX4_take_33 (by decide) ?_
            refine lv_icmp_ge (tgt := 80) hx hb dX4_take_35 (by decide) (fun c1 => ?_) (fun c1 => ?_)
            · have hr := br_p c1 hr
              have e1 := Option.some.inj hr
              subst e1
              exact hk _ _ _ hW (lv_sub hl [0, 1] rfl)
            · have hr := br_n c1 hr
              refine lv_iload_n hx hb dX4_take_38 rfl (lv_at hl 2 rfl) ?_
              refine lv_aload_n hx hb dX4_take_39 rfl (lv_at hl 1 rfl) ?_
              refine g4_2 hx hb hts hi4 hown hK hW (k := 10) rfl (hts _ (wm 1 rfl)) dX4_take_40 ?_
              refine lv_icmp_ge (tgt := 80) hx hb dX4_take_43 (by decide) (fun c1 => ?_) (fun c1 => ?_)
              · have hr := br_p c1 hr
                have e1 := Option.some.inj hr
                subst e1
                exact hk _ _ _ hW (lv_sub hl [0, 1] rfl)
              · have hr := br_n c1 hr
                refine lv_aload_n hx hb dX4_take_46 rfl (lv_at hl 1 rfl) ?_
                refine g4_0 hx hb hts hi4 hown hK hW (k := 10) rfl (hts _ (wm 4 rfl)) dX4_take_47 ?_
                refine lv_iload_n hx hb dX4_take_50 rfl (lv_at hl 2 rfl) ?_
                refine lv_iconst (v := (1 : Int32)) hx hb dX4_take_51 (by decide) ?_
                refine lv_isub hx hb dX4_take_52 ?_
                refine lv_aload_n hx hb dX4_take_53 rfl (lv_at hl 1 rfl) ?_
                refine g4_0 hx hb hts hi4 hown hK hW (k := 10) rfl (hts _ (wm 4 rfl)) dX4_take_54 ?_
                refine lv_iload_n hx hb dX4_take_57 rfl (lv_at hl 2 rfl) ?_
                obtain ⟨hn58, hr⟩ := chk_e hr
                refine xiald hx hb hK hW (k := 11) (t := 22) rfl (by decide) (by decide) rfl (n := 6) hn58 (jx := (ix x3_3)) rfl dX4_take_58 ?_
                obtain ⟨hn59, hr⟩ := chk_e hr
                obtain ⟨M_6, eM_6, hr⟩ := lt1_e hr
                refine xiast hx hb hK hW (k := 11) (t := 22) rfl (by decide) (by decide) rfl (n := 6) hn59 (jx := (ix (x3_3 - (1 : Int32)))) rfl dX4_take_59 (fun H locs hW => ?_)
                rw [← eM_6] at hW
                refine lv_aload_n hx hb dX4_take_60 rfl (lv_at hl 1 rfl) ?_
                refine g4_1 hx hb hts hi4 hown hK hW (k := 10) rfl (hts _ (wm 3 rfl)) dX4_take_61 ?_
                refine lv_iload_n hx hb dX4_take_64 rfl (lv_at hl 2 rfl) ?_
                refine lv_iconst (v := (1 : Int32)) hx hb dX4_take_65 (by decide) ?_
                refine lv_isub hx hb dX4_take_66 ?_
                refine lv_aload_n hx hb dX4_take_67 rfl (lv_at hl 1 rfl) ?_
                refine g4_1 hx hb hts hi4 hown hK hW (k := 10) rfl (hts _ (wm 3 rfl)) dX4_take_68 ?_
                refine lv_iload_n hx hb dX4_take_71 rfl (lv_at hl 2 rfl) ?_
                obtain ⟨hn72, hr⟩ := chk_e hr
                refine xiald hx hb hK hW (k := 12) (t := 22) rfl (by decide) (by decide) rfl (n := 6) hn72 (jx := (ix x3_3)) rfl dX4_take_72 ?_
                obtain ⟨hn73, hr⟩ := chk_e hr
                obtain ⟨M_7, eM_7, hr⟩ := lt1_e hr
                refine xiast hx hb hK hW (k := 12) (t := 22) rfl (by decide) (by decide) rfl (n := 6) hn73 (jx := (ix (x3_3 - (1 : Int32)))) rfl dX4_take_73 (fun H locs hW => ?_)
                rw [← eM_7] at hW
                obtain ⟨x3_8, ex3_8, hr⟩ := lt1_e hr
                refine lv_iinc (v := x3_8) (lv' := [(3, .int x3_8), (2, .int x2_1), (0, .ref (ad 10))]) hx hb dX4_take_74 hl (k := 2) rfl (by rw [ex3_8]; rfl) (by decide) rfl (fun ls hl => ?_)
                refine lv_goto (tgt := 32) hx hb dX4_take_77 (by decide) ?_
                exact ih x3_8 M_7 _ _ _ _ hW (lv_sub hl [1, 2, 0] rfl) hr hk
        obtain ⟨M_5, hr, hr3⟩ := ob1_e hr
        refine hL32_1 1000 x3_2 M _ _ _ M_5 hW (lv_sub hl [1, 2, 0] rfl) hr (fun H locs ls hW hl => ?_)
        clear hr
        have hr := hr3
        refine lv_aload_n hx hb dX4_take_80 rfl (lv_at hl 1 rfl) ?_
        refine lv_dup hx hb dX4_take_81 rfl ?_
        refine g4_2 hx hb hts hi4 hown hK hW (k := 10) rfl (hts _ (wm 1 rfl)) dX4_take_82 ?_
        refine lv_iconst (v := (1 : Int32)) hx hb dX4_take_85 (by decide) ?_
        refine lv_isub hx hb dX4_take_86 ?_
        obtain ⟨M_9, eM_9, hr⟩ := lt1_e hr
        refine p4_2 hx hb hts hi4 hown hK hW (k := 10) rfl (hts _ (wm 1 rfl)) dX4_take_87 (fun H locs hW => ?_)
        rw [← eM_9] at hW
        refine lv_iload_n hx hb dX4_take_90 rfl (lv_at hl 0 rfl) ?_
        obtain ⟨e1, e2⟩ := Prod.mk.inj (Option.some.inj hr)
        rw [← e1, ← e2]
        exact xiret hx hb hr0 hlocks hW adR_rf dX4_take_91
      · have hr := br_n c1 hr
        refine lv_ldc (v := (-2000000003 : Int32)) hx hb hown (hts _ (wm 2 rfl)) dX4_take_18 ?_
        obtain ⟨e1, e2⟩ := Prod.mk.inj (Option.some.inj hr)
        rw [← e1, ← e2]
        exact xiret hx hb hr0 hlocks hW adR_rf dX4_take_20

set_option maxHeartbeats 4000000 in
set_option maxRecDepth 100000 in
theorem c_X6_latest (l : Launch) (D : va_G) (cA : Nat → ClassId) (ad : Nat → Nat) (M : Mm) (x1 : Int32) {r : Option Nat} (hr : f_X6_latest x1 M = some r) : Met l yX6_latest wsX6_latest ({ frames := 0, cells := 0, slots := 0, locals := 0 }) (PcX D true cA ad M [.ref (ad 14), .int x1]) (QqX false D true cA ad r M) 0 0 (AX true ad) := by
  refine Met.ofW (cc := cX6_latest) (maxL := 2) (ret := (some (.object "TransitMeter$Round"))) (by decide) rfl ?_
  intro p e s m args below meth c s₁ B hml hv
  obtain ⟨hav, hP0, hK⟩ := hv
  have hx := B.exec
  have hb := B.bytes
  have hr0 := B.returns
  have hts := atoms_spec (ws := wsX6_latest) B.pre
  have hown : s.vm.findClass RX6 = some m.cls := findClass_of_methodNamed B.named
  have hlocks := B.notSynchronized
  have hW := xstart hP0
  have hi6 : ∀ w ∈ wsX60, w ∈ wsX6_latest := fun w h => List.mem_cons_of_mem _ (List.mem_append_right _ h)
  have hl := lv_entry ([.ref (ad 14), .int x1]) (n := 2) (Nat.le_of_ble_eq_true rfl)
  have hef := lg_entry_eq m ([.ref (ad 14), .int x1]) 2
  rw [← hav] at hef
  rw [hef]
  clear hef
  generalize (lg_sl ([.ref (ad 14), .int x1]) ++ List.replicate (2 - (lg_sl ([.ref (ad 14), .int x1])).length) Slot.unset).toArray = ls at hl ⊢
  have hl : lv_has ls 2 [(0, .ref (ad 14)), (1, .int x1)] := hl
  clear hP0
  unfold f_X6_latest at hr
  refine lv_iload_n hx hb dX6_latest_0 rfl (lv_at hl 1 rfl) ?_
  refine lv_if_lt (tgt := 27) hx hb dX6_latest_1 (by decide) (fun c1 => ?_) (fun c1 => ?_)
  · have hr := br_p c1 hr
    refine lv_null hx hb dX6_latest_27 ?_
    rw [← Option.some.inj hr]
    exact xaretN hx hb hr0 hlocks hW adR_rf dX6_latest_28
  · have hr := br_n c1 hr
    refine lv_iload_n hx hb dX6_latest_4 rfl (lv_at hl 1 rfl) ?_
    refine lv_aload_n hx hb dX6_latest_5 rfl (lv_at hl 0 rfl) ?_
    refine g6_1 hx hb hts hi6 hown hK hW (k := 14) rfl (hts _ (wm 1 rfl)) dX6_latest_6 ?_
    refine lv_icmp_ge (tgt := 27) hx hb dX6_latest_9 (by decide) (fun c1 => ?_) (fun c1 => ?_)
    · have hr := br_p c1 hr
      refine lv_null hx hb dX6_latest_27 ?_
      rw [← Option.some.inj hr]
      exact xaretN hx hb hr0 hlocks hW adR_rf dX6_latest_28
    · have hr := br_n c1 hr
      refine lv_iload_n hx hb dX6_latest_12 rfl (lv_at hl 1 rfl) ?_
      refine lv_bipush (v := (12 : Int32)) hx hb dX6_latest_13 (by decide) ?_
      refine lv_icmp_ge (tgt := 27) hx hb dX6_latest_15 (by decide) (fun c1 => ?_) (fun c1 => ?_)
      · have hr := br_p c1 hr
        refine lv_null hx hb dX6_latest_27 ?_
        rw [← Option.some.inj hr]
        exact xaretN hx hb hr0 hlocks hW adR_rf dX6_latest_28
      · have hr := br_n c1 hr
        refine lv_aload_n hx hb dX6_latest_18 rfl (lv_at hl 0 rfl) ?_
        refine g6_0 hx hb hts hi6 hown hK hW (k := 14) rfl (hts _ (wm 2 rfl)) dX6_latest_19 ?_
        refine lv_iload_n hx hb dX6_latest_22 rfl (lv_at hl 1 rfl) ?_
        obtain ⟨hn23, hr⟩ := chk_e hr
        refine xaald hx hb hK hW (k := 15) (t := 51) rfl (by decide) (by decide) rfl (t0 := 4) rfl hn23 dX6_latest_23 ?_
        refine lv_goto (tgt := 28) hx hb dX6_latest_24 (by decide) ?_
        rw [← Option.some.inj hr]
        exact xaret hx hb hr0 hlocks hW adR_rf dX6_latest_28

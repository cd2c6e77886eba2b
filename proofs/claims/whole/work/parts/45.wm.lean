set_option maxHeartbeats 4000000 in
set_option maxRecDepth 100000 in
theorem c_X11_factor (l : Launch) (D : va_G) (cA : Nat → ClassId) (ad : Nat → Nat) (M : Mm) (x1 : Int32) {r : Int32} (hr : f_X11_factor x1 M = some r) : Met l yX11_factor wsX11_factor ({ frames := 3, cells := 0, slots := 0, locals := 73 }) (PcX D false cA ad M [.ref (ad 0), .int x1]) (QiX false D false cA ad r M) 0 0 (AX false ad) := by
  refine Met.ofW (cc := cX11_factor) (maxL := 2) (ret := (some .int)) (by decide) rfl ?_
  intro p e s m args below meth c s₁ B hml hv
  obtain ⟨hav, hP0, hK⟩ := hv
  have hx := B.exec
  have hb := B.bytes
  have hr0 := B.returns
  have hts := atoms_spec (ws := wsX11_factor) B.pre
  have hown : s.vm.findClass RX11 = some m.cls := findClass_of_methodNamed B.named
  have hlocks := B.notSynchronized
  have hW := xstart hP0
  have hl := lv_entry ([.ref (ad 0), .int x1]) (n := 2) (Nat.le_of_ble_eq_true rfl)
  have hef := lg_entry_eq m ([.ref (ad 0), .int x1]) 2
  rw [← hav] at hef
  rw [hef]
  clear hef
  generalize (lg_sl ([.ref (ad 0), .int x1]) ++ List.replicate (2 - (lg_sl ([.ref (ad 0), .int x1])).length) Slot.unset).toArray = ls at hl ⊢
  have hl : lv_has ls 2 [(0, .ref (ad 0)), (1, .int x1)] := hl
  clear hP0
  unfold f_X11_factor at hr
  refine lv_iload_n hx hb dX11_factor_0 rfl (lv_at hl 1 rfl) ?_
  refine lv_ldc (v := (-100000 : Int32)) hx hb hown (hts _ (wm 1 rfl)) dX11_factor_1 ?_
  refine lv_ldc (v := (100000 : Int32)) hx hb hown (hts _ (wm 2 rfl)) dX11_factor_3 ?_
  obtain ⟨r_1, hc5, hr⟩ := ob1_e hr
  refine xk_i (va_runS (As := [.int x1, .int (-100000 : Int32), .int (100000 : Int32)]) (rest := []) ⟨hx, hb, hml, hown, hts⟩ (c_X11_in l D cA ad M x1 (-100000 : Int32) (100000 : Int32) hc5) (va_cwS 3 hts gX11_factor_X11_in rfl rfl rfl (by decide +kernel) ⟨Nat.le_of_ble_eq_true rfl, Nat.le_of_ble_eq_true rfl⟩) (xpreS hK hW) rfl rfl hl.1 rfl (lv_room (Nat.le_of_ble_eq_true rfl)) dX11_factor_5 ⟨Nat.le_of_ble_eq_true rfl, Nat.le_of_ble_eq_true rfl⟩) hW (fun H locs hW => ?_)
  refine lv_if_eq (tgt := 20) hx hb dX11_factor_8 (by decide) (fun c1 => ?_) (fun c1 => ?_)
  · have hr := br_p c1 hr
    refine lv_ldc (v := (-2000000002 : Int32)) hx hb hown (hts _ (wm 3 rfl)) dX11_factor_20 ?_
    rw [← Option.some.inj hr]
    exact xiret hx hb hr0 hlocks hW adR_rf dX11_factor_22
  · have hr := br_n c1 hr
    refine lv_aload_n hx hb dX11_factor_11 rfl (lv_at hl 0 rfl) ?_
    refine lv_iload_n hx hb dX11_factor_12 rfl (lv_at hl 1 rfl) ?_
    refine lv_i2l hx hb dX11_factor_13 rfl ?_
    obtain ⟨r_2, hc14, hr⟩ := ob1_e hr
    refine xk_i (va_runV (As := [.long (Int32.toInt64 x1)]) (rest := []) ⟨hx, hb, hml, hown, hts⟩ (c_X11_factorFor l D cA ad M (Int32.toInt64 x1) hc14) (cwV 1 hts gX11_factor_X11_factorFor rfl rfl rfl (by decide +kernel) ⟨Nat.le_of_ble_eq_true rfl, Nat.le_of_ble_eq_true rfl⟩) (xpreV hK hW (k := 0) rfl (by decide) rfl) rfl rfl hl.1 rfl (lv_room (Nat.le_of_ble_eq_true rfl)) dX11_factor_14 ⟨Nat.le_of_ble_eq_true rfl, Nat.le_of_ble_eq_true rfl⟩) hW (fun H locs hW => ?_)
    refine lv_goto (tgt := 22) hx hb dX11_factor_17 (by decide) ?_
    rw [← Option.some.inj hr]
    exact xiret hx hb hr0 hlocks hW adR_rf dX11_factor_22

set_option maxHeartbeats 4000000 in
set_option maxRecDepth 100000 in
theorem c_X11_round (l : Launch) (D : va_G) (cA : Nat → ClassId) (ad : Nat → Nat) (M : Mm) (x1 : Int32) (x2 : Int32) {r : Int32} (hr : f_X11_round x1 x2 M = some r) : Met l yX11_round wsX11_round ({ frames := 1, cells := 0, slots := 0, locals := 22 }) (PcX D false cA ad M [.ref (ad 0), .int x1, .int x2]) (QiX false D false cA ad r M) 0 0 (AX false ad) := by
  refine Met.ofW (cc := cX11_round) (maxL := 3) (ret := (some .int)) (by decide) rfl ?_
  intro p e s m args below meth c s₁ B hml hv
  obtain ⟨hav, hP0, hK⟩ := hv
  have hx := B.exec
  have hb := B.bytes
  have hr0 := B.returns
  have hts := atoms_spec (ws := wsX11_round) B.pre
  have hown : s.vm.findClass RX11 = some m.cls := findClass_of_methodNamed B.named
  have hlocks := B.notSynchronized
  have hW := xstart hP0
  have hi11 : ∀ w ∈ wsX110, w ∈ wsX11_round := fun w h => List.mem_cons_of_mem _ (List.mem_append_right _ h)
  have hl := lv_entry ([.ref (ad 0), .int x1, .int x2]) (n := 3) (Nat.le_of_ble_eq_true rfl)
  have hef := lg_entry_eq m ([.ref (ad 0), .int x1, .int x2]) 3
  rw [← hav] at hef
  rw [hef]
  clear hef
  generalize (lg_sl ([.ref (ad 0), .int x1, .int x2]) ++ List.replicate (3 - (lg_sl ([.ref (ad 0), .int x1, .int x2])).length) Slot.unset).toArray = ls at hl ⊢
  have hl : lv_has ls 3 [(0, .ref (ad 0)), (1, .int x1), (2, .int x2)] := hl
  clear hP0
  unfold f_X11_round at hr
  refine lv_iload_n hx hb dX11_round_0 rfl (lv_at hl 1 rfl) ?_
  refine lv_iconst (v := (0 : Int32)) hx hb dX11_round_1 (by decide) ?_
  refine lv_aload_n hx hb dX11_round_2 rfl (lv_at hl 0 rfl) ?_
  refine g11_0 hx hb hts hi11 hown hK hW (k := 0) rfl (hts _ (wm 1 rfl)) dX11_round_3 ?_
  refine lv_bipush (v := (86 : Int32)) hx hb dX11_round_6 (by decide) ?_
  refine xiald hx hb hK hW (k := 1) (t := 24) rfl (by decide) (by decide) rfl (n := 159) (by decide) (jx := 86) (by decide) dX11_round_8 ?_
  refine lv_iconst (v := (1 : Int32)) hx hb dX11_round_9 (by decide) ?_
  refine lv_isub hx hb dX11_round_10 ?_
  obtain ⟨r_1, hc11, hr⟩ := ob1_e hr
  refine xk_i (va_runS (As := [.int x1, .int (0 : Int32), .int ((gI M 1 86) - (1 : Int32))]) (rest := []) ⟨hx, hb, hml, hown, hts⟩ (c_X11_in l D cA ad M x1 (0 : Int32) ((gI M 1 86) - (1 : Int32)) hc11) (va_cwS 3 hts gX11_round_X11_in rfl rfl rfl (by decide +kernel) ⟨Nat.le_of_ble_eq_true rfl, Nat.le_of_ble_eq_true rfl⟩) (xpreS hK hW) rfl rfl hl.1 rfl (lv_room (Nat.le_of_ble_eq_true rfl)) dX11_round_11 ⟨Nat.le_of_ble_eq_true rfl, Nat.le_of_ble_eq_true rfl⟩) hW (fun H locs hW => ?_)
  refine lv_if_ne (tgt := 20) hx hb dX11_round_14 (by decide) (fun c1 => ?_) (fun c1 => ?_)
  · have hr := br_n c1 hr
    refine lv_iload_n hx hb dX11_round_20 rfl (lv_at hl 2 rfl) ?_
    refine lv_iconst (v := (0 : Int32)) hx hb dX11_round_21 (by decide) ?_
    refine lv_iconst (v := (5 : Int32)) hx hb dX11_round_22 (by decide) ?_
    obtain ⟨r_2, hc23, hr⟩ := ob1_e hr
    refine xk_i (va_runS (As := [.int x2, .int (0 : Int32), .int (5 : Int32)]) (rest := []) ⟨hx, hb, hml, hown, hts⟩ (c_X11_in l D cA ad M x2 (0 : Int32) (5 : Int32) hc23) (va_cwS 3 hts gX11_round_X11_in rfl rfl rfl (by decide +kernel) ⟨Nat.le_of_ble_eq_true rfl, Nat.le_of_ble_eq_true rfl⟩) (xpreS hK hW) rfl rfl hl.1 rfl (lv_room (Nat.le_of_ble_eq_true rfl)) dX11_round_23 ⟨Nat.le_of_ble_eq_true rfl, Nat.le_of_ble_eq_true rfl⟩) hW (fun H locs hW => ?_)
    refine lv_if_eq (tgt := 46) hx hb dX11_round_26 (by decide) (fun c1 => ?_) (fun c1 => ?_)
    · have hr := br_p c1 hr
      refine lv_ldc (v := (-2000000002 : Int32)) hx hb hown (hts _ (wm 3 rfl)) dX11_round_46 ?_
      rw [← Option.some.inj hr]
      exact xiret hx hb hr0 hlocks hW adR_rf dX11_round_48
    · have hr := br_n c1 hr
      refine lv_aload_n hx hb dX11_round_29 rfl (lv_at hl 0 rfl) ?_
      refine g11_0 hx hb hts hi11 hown hK hW (k := 0) rfl (hts _ (wm 1 rfl)) dX11_round_30 ?_
      refine lv_bipush (v := (87 : Int32)) hx hb dX11_round_33 (by decide) ?_
      refine lv_bipush (v := (6 : Int32)) hx hb dX11_round_35 (by decide) ?_
      refine lv_iload_n hx hb dX11_round_37 rfl (lv_at hl 1 rfl) ?_
      refine lv_imul hx hb dX11_round_38 ?_
      refine lv_iadd hx hb dX11_round_39 ?_
      refine lv_iload_n hx hb dX11_round_40 rfl (lv_at hl 2 rfl) ?_
      refine lv_iadd hx hb dX11_round_41 ?_
      obtain ⟨hn42, hr⟩ := chk_e hr
      refine xiald hx hb hK hW (k := 1) (t := 24) rfl (by decide) (by decide) rfl (n := 159) hn42 (jx := (ix (((87 : Int32) + ((6 : Int32) * x1)) + x2))) rfl dX11_round_42 ?_
      refine lv_goto (tgt := 48) hx hb dX11_round_43 (by decide) ?_
      rw [← Option.some.inj hr]
      exact xiret hx hb hr0 hlocks hW adR_rf dX11_round_48
  · have hr := br_p c1 hr
    refine lv_ldc (v := (-2000000001 : Int32)) hx hb hown (hts _ (wm 2 rfl)) dX11_round_17 ?_
    rw [← Option.some.inj hr]
    exact xiret hx hb hr0 hlocks hW adR_rf dX11_round_19

set_option maxHeartbeats 4000000 in
set_option maxRecDepth 100000 in
theorem c_X11_volume (l : Launch) (D : va_G) (cA : Nat → ClassId) (ad : Nat → Nat) (M : Mm) (x1 : Int32) {r : Int64} (hr : f_X11_volume x1 M = some r) : Met l yX11_volume wsX11_volume ({ frames := 1, cells := 0, slots := 0, locals := 22 }) (PcX D false cA ad M [.ref (ad 0), .int x1]) (QlX false D false cA ad r M) 0 0 (AX false ad) := by
  refine Met.ofW (cc := cX11_volume) (maxL := 2) (ret := (some .long)) (by decide) rfl ?_
  intro p e s m args below meth c s₁ B hml hv
  obtain ⟨hav, hP0, hK⟩ := hv
  have hx := B.exec
  have hb := B.bytes
  have hr0 := B.returns
  have hts := atoms_spec (ws := wsX11_volume) B.pre
  have hown : s.vm.findClass RX11 = some m.cls := findClass_of_methodNamed B.named
  have hlocks := B.notSynchronized
  have hW := xstart hP0
  have hi11 : ∀ w ∈ wsX110, w ∈ wsX11_volume := fun w h => List.mem_cons_of_mem _ (List.mem_append_right _ h)
  have hl := lv_entry ([.ref (ad 0), .int x1]) (n := 2) (Nat.le_of_ble_eq_true rfl)
  have hef := lg_entry_eq m ([.ref (ad 0), .int x1]) 2
  rw [← hav] at hef
  rw [hef]
  clear hef
  generalize (lg_sl ([.ref (ad 0), .int x1]) ++ List.replicate (2 - (lg_sl ([.ref (ad 0), .int x1])).length) Slot.unset).toArray = ls at hl ⊢
  have hl : lv_has ls 2 [(0, .ref (ad 0)), (1, .int x1)] := hl
  clear hP0
  unfold f_X11_volume at hr
  refine lv_iload_n hx hb dX11_volume_0 rfl (lv_at hl 1 rfl) ?_
  refine lv_iconst (v := (0 : Int32)) hx hb dX11_volume_1 (by decide) ?_
  refine lv_iconst (v := (2 : Int32)) hx hb dX11_volume_2 (by decide) ?_
  obtain ⟨r_1, hc3, hr⟩ := ob1_e hr
  refine xk_i (va_runS (As := [.int x1, .int (0 : Int32), .int (2 : Int32)]) (rest := []) ⟨hx, hb, hml, hown, hts⟩ (c_X11_in l D cA ad M x1 (0 : Int32) (2 : Int32) hc3) (va_cwS 3 hts gX11_volume_X11_in rfl rfl rfl (by decide +kernel) ⟨Nat.le_of_ble_eq_true rfl, Nat.le_of_ble_eq_true rfl⟩) (xpreS hK hW) rfl rfl hl.1 rfl (lv_room (Nat.le_of_ble_eq_true rfl)) dX11_volume_3 ⟨Nat.le_of_ble_eq_true rfl, Nat.le_of_ble_eq_true rfl⟩) hW (fun H locs hW => ?_)
  refine lv_if_ne (tgt := 13) hx hb dX11_volume_6 (by decide) (fun c1 => ?_) (fun c1 => ?_)
  · have hr := br_n c1 hr
    refine lv_iload_n hx hb dX11_volume_13 rfl (lv_at hl 1 rfl) ?_
    refine lv_iconst (v := (2 : Int32)) hx hb dX11_volume_14 (by decide) ?_
    refine lv_icmp_ne (tgt := 34) hx hb dX11_volume_15 (by decide) (fun c1 => ?_) (fun c1 => ?_)
    · have hr := br_n c1 hr
      refine lv_aload_n hx hb dX11_volume_34 rfl (lv_at hl 0 rfl) ?_
      refine g11_1 hx hb hts hi11 hown hK hW (k := 0) rfl (hts _ (wm 2 rfl)) dX11_volume_35 ?_
      refine lv_iload_n hx hb dX11_volume_38 rfl (lv_at hl 1 rfl) ?_
      obtain ⟨hn39, hr⟩ := chk_e hr
      refine xlald hx hb hK hW (k := 2) (t := 40) rfl (by decide) (by decide) rfl (n := 2) hn39 (jx := (ix x1)) rfl dX11_volume_39 ?_
      rw [← Option.some.inj hr]
      exact xlret hx hb hr0 hlocks hW adR_rf dX11_volume_40
    · have hr := br_p c1 hr
      refine lv_aload_n hx hb dX11_volume_18 rfl (lv_at hl 0 rfl) ?_
      refine g11_1 hx hb hts hi11 hown hK hW (k := 0) rfl (hts _ (wm 2 rfl)) dX11_volume_19 ?_
      refine lv_iconst (v := (0 : Int32)) hx hb dX11_volume_22 (by decide) ?_
      refine xlald hx hb hK hW (k := 2) (t := 40) rfl (by decide) (by decide) rfl (n := 2) (by decide) (jx := 0) (by decide) dX11_volume_23 ?_
      refine lv_aload_n hx hb dX11_volume_24 rfl (lv_at hl 0 rfl) ?_
      refine g11_1 hx hb hts hi11 hown hK hW (k := 0) rfl (hts _ (wm 2 rfl)) dX11_volume_25 ?_
      refine lv_iconst (v := (1 : Int32)) hx hb dX11_volume_28 (by decide) ?_
      refine xlald hx hb hK hW (k := 2) (t := 40) rfl (by decide) (by decide) rfl (n := 2) (by decide) (jx := 1) (by decide) dX11_volume_29 ?_
      refine lv_lsub hx hb dX11_volume_30 ?_
      refine lv_goto (tgt := 40) hx hb dX11_volume_31 (by decide) ?_
      rw [← Option.some.inj hr]
      exact xlret hx hb hr0 hlocks hW adR_rf dX11_volume_40
  · have hr := br_p c1 hr
    refine lv_ldc2 (v := (-2000000002 : Int64)) hx hb hown (hts _ (wm 1 rfl)) dX11_volume_9 ?_
    rw [← Option.some.inj hr]
    exact xlret hx hb hr0 hlocks hW adR_rf dX11_volume_12

set_option maxHeartbeats 4000000 in
set_option maxRecDepth 100000 in
theorem c_X11_layVelocities (l : Launch) (D : va_G) (cA : Nat → ClassId) (ad : Nat → Nat) (M : Mm) {r : Int32} {M' : Mm} (hr : f_X11_layVelocities M = some (r, M')) : Met l yX11_layVelocities wsX11_layVelocities ({ frames := 0, cells := 0, slots := 0, locals := 0 }) (PcX D false cA ad M [.ref (ad 0)]) (QiX false D false cA ad r M') 0 0 (AX false ad) := by
  refine Met.ofW (cc := cX11_layVelocities) (maxL := 5) (ret := (some .int)) (by decide) rfl ?_
  intro p e s m args below meth c s₁ B hml hv
  obtain ⟨hav, hP0, hK⟩ := hv
  have hx := B.exec
  have hb := B.bytes
  have hr0 := B.returns
  have hts := atoms_spec (ws := wsX11_layVelocities) B.pre
  have hown : s.vm.findClass RX11 = some m.cls := findClass_of_methodNamed B.named
  have hlocks := B.notSynchronized
  have hW := xstart hP0
  have hi11 : ∀ w ∈ wsX110, w ∈ wsX11_layVelocities := fun w h => List.mem_cons_of_mem _ (List.mem_append_right _ h)
  have hl := lv_entry ([.ref (ad 0)]) (n := 5) (Nat.le_of_ble_eq_true rfl)
  have hef := lg_entry_eq m ([.ref (ad 0)]) 5
  rw [← hav] at hef
  rw [hef]
  clear hef
  generalize (lg_sl ([.ref (ad 0)]) ++ List.replicate (5 - (lg_sl ([.ref (ad 0)])).length) Slot.unset).toArray = ls at hl ⊢
  have hl : lv_has ls 5 [(0, .ref (ad 0))] := hl
  clear hP0
  unfold f_X11_layVelocities at hr
  refine lv_iconst (v := (0 : Int32)) hx hb dX11_layVelocities_0 (by decide) ?_
  refine lv_istore_n (lv' := [(1, .int (0 : Int32)), (0, .ref (ad 0))]) hx hb dX11_layVelocities_1 rfl hl (by decide) rfl (fun ls hl => ?_)
  refine lv_iconst (v := (0 : Int32)) hx hb dX11_layVelocities_2 (by decide) ?_
  refine lv_istore_n (lv' := [(2, .int (0 : Int32)), (1, .int (0 : Int32)), (0, .ref (ad 0))]) hx hb dX11_layVelocities_3 rfl hl (by decide) rfl (fun ls hl => ?_)
  have hL4_1 : ∀ (n : Nat) (x1_1 : Int32) (x2_2 : Int32) (M_3 : Mm) (H : Heap) (locs : List Loc) (ls : Array Slot) (x1_4 : Int32) (M_5 : Mm), Xw D false cA ad M_3 (AX false ad) s.heap H locs → lv_has ls 5 [(0, .ref (ad 0)), (1, .int x1_1), (2, .int x2_2)] → f_X11_layVelocities_L4 n x1_1 x2_2 M_3 = some (x1_4, M_5) → (∀ (H : Heap) (locs : List Loc) (ls : Array Slot), Xw D false cA ad M_5 (AX false ad) s.heap H locs → lv_has ls 5 [(1, .int x1_4)] → W p l e (headSpec wsX11_layVelocities { frames := 0, cells := 0, slots := 0, locals := 0 }).room s m args below meth c H locs 0 0 (MQ below (QiX false D false cA ad r M') args s 0 0 (AX false ad)) (F0 m 94 ls [])) → W p l e (headSpec wsX11_layVelocities { frames := 0, cells := 0, slots := 0, locals := 0 }).room s m args below meth c H locs 0 0 (MQ below (QiX false D false cA ad r M') args s 0 0 (AX false ad)) (F0 m 4 ls []) := by
    intro n
    induction n with
    | zero =>
      intro x1_1 x2_2 M_3 H locs ls x1_4 M_5 hW hl hr hk
      exact absurd hr (by simp [f_X11_layVelocities_L4])
    | succ n ih =>
      intro x1_1 x2_2 M_3 H locs ls x1_4 M_5 hW hl hr hk
      rw [f_X11_layVelocities_L4] at hr
      refine lv_iload_n hx hb dX11_layVelocities_4 rfl (lv_at hl 2 rfl) ?_
      refine lv_aload_n hx hb dX11_layVelocities_5 rfl (lv_at hl 0 rfl) ?_
      refine g11_0 hx hb hts hi11 hown hK hW (k := 0) rfl (hts _ (wm 1 rfl)) dX11_layVelocities_6 ?_
      refine lv_bipush (v := (86 : Int32)) hx hb dX11_layVelocities_9 (by decide) ?_
      refine xiald hx hb hK hW (k := 1) (t := 24) rfl (by decide) (by decide) rfl (n := 159) (by decide) (jx := 86) (by decide) dX11_layVelocities_11 ?_
      refine lv_icmp_ge (tgt := 94) hx hb dX11_layVelocities_12 (by decide) (fun c1 => ?_) (fun c1 => ?_)
      · have hr := br_p c1 hr
        obtain ⟨e1, e2⟩ := Prod.mk.inj (Option.some.inj hr)
        subst e1
        subst e2
        exact hk _ _ _ hW (lv_sub hl [1] rfl)
      · have hr := br_n c1 hr
        refine lv_aload_n hx hb dX11_layVelocities_15 rfl (lv_at hl 0 rfl) ?_
        refine g11_0 hx hb hts hi11 hown hK hW (k := 0) rfl (hts _ (wm 1 rfl)) dX11_layVelocities_16 ?_
        refine lv_bipush (v := (87 : Int32)) hx hb dX11_layVelocities_19 (by decide) ?_
        refine lv_bipush (v := (6 : Int32)) hx hb dX11_layVelocities_21 (by decide) ?_
        refine lv_iload_n hx hb dX11_layVelocities_23 rfl (lv_at hl 2 rfl) ?_
        refine lv_imul hx hb dX11_layVelocities_24 ?_
        refine lv_iadd hx hb dX11_layVelocities_25 ?_
        obtain ⟨hn26, hr⟩ := chk_e hr
        refine xiald hx hb hK hW (k := 1) (t := 24) rfl (by decide) (by decide) rfl (n := 159) hn26 (jx := (ix ((87 : Int32) + ((6 : Int32) * x2_2)))) rfl dX11_layVelocities_26 ?_
        obtain ⟨x3_6, ex3_6, hr⟩ := lt1_e hr
        rw [← ex3_6]
        refine lv_istore_n (lv' := [(3, .int x3_6), (0, .ref (ad 0)), (1, .int x1_1), (2, .int x2_2)]) hx hb dX11_layVelocities_27 rfl hl (by decide) rfl (fun ls hl => ?_)
        refine lv_iload_n hx hb dX11_layVelocities_28 rfl (lv_at hl 0 rfl) ?_
        refine lv_ldc (v := (-2000000005 : Int32)) hx hb hown (hts _ (wm 2 rfl)) dX11_layVelocities_29 ?_
        obtain ⟨x1_7, M_8, hr, hr3⟩ := ob2_e hr
        have hj88_8 : ∀ (H : Heap) (locs : List Loc) (ls : Array Slot), Xw D false cA ad M_8 (AX false ad) s.heap H locs → lv_has ls 5 [(0, .ref (ad 0)), (2, .int x2_2), (1, .int x1_7)] → W p l e (headSpec wsX11_layVelocities { frames := 0, cells := 0, slots := 0, locals := 0 }).room s m args below meth c H locs 0 0 (MQ below (QiX false D false cA ad r M') args s 0 0 (AX false ad)) (F0 m 88 ls []) := by
          intro H locs ls hW hl
          have hr := hr3
          obtain ⟨x2_17, ex2_17, hr⟩ := lt1_e hr
          refine lv_iinc (v := x2_17) (lv' := [(2, .int x2_17), (0, .ref (ad 0)), (1, .int x1_7)]) hx hb dX11_layVelocities_88 hl (k := 1) rfl (by rw [ex2_17]; rfl) (by decide) rfl (fun ls hl => ?_)
          refine lv_goto (tgt := 4) hx hb dX11_layVelocities_91 (by decide) ?_
          exact ih x1_7 x2_17 M_8 _ _ _ _ _ hW (lv_sub hl [1, 2, 0] rfl) hr hk
        clear hr3
        refine lv_icmp_eq (tgt := 88) hx hb dX11_layVelocities_31 (by decide) (fun c1 => ?_) (fun c1 => ?_)
        · have hr := br_p c1 hr
          obtain ⟨e1, e2⟩ := Prod.mk.inj (Option.some.inj hr)
          subst e1
          subst e2
          exact hj88_8 _ _ _ hW (lv_sub hl [1, 3, 2] rfl)
        · have hr := br_n c1 hr
          refine lv_iload_n hx hb dX11_layVelocities_34 rfl (lv_at hl 2 rfl) ?_
          refine lv_istore (lv' := [(4, .int x1_1), (3, .int x3_6), (0, .ref (ad 0)), (1, .int x1_1), (2, .int x2_2)]) hx hb dX11_layVelocities_35 hl (by decide) rfl (fun ls hl => ?_)
          have hL37_2 : ∀ (n : Nat) (x4_9 : Int32) (M_10 : Mm) (H : Heap) (locs : List Loc) (ls : Array Slot) (x4_11 : Int32) (M_12 : Mm), Xw D false cA ad M_10 (AX false ad) s.heap H locs → lv_has ls 5 [(3, .int x3_6), (0, .ref (ad 0)), (1, .int x1_1), (2, .int x2_2), (4, .int x4_9)] → f_X11_layVelocities_L37 x3_6 n x4_9 M_10 = some (x4_11, M_12) → (∀ (H : Heap) (locs : List Loc) (ls : Array Slot), Xw D false cA ad M_12 (AX false ad) s.heap H locs → lv_has ls 5 [(3, .int x3_6), (0, .ref (ad 0)), (1, .int x1_1), (2, .int x2_2), (4, .int x4_11)] → W p l e (headSpec wsX11_layVelocities { frames := 0, cells := 0, slots := 0, locals := 0 }).room s m args below meth c H locs 0 0 (MQ below (QiX false D false cA ad r M') args s 0 0 (AX false ad)) (F0 m 77 ls [])) → W p l e (headSpec wsX11_layVelocities { frames := 0, cells := 0, slots := 0, locals := 0 }).room s m args below meth c H locs 0 0 (MQ below (QiX false D false cA ad r M') args s 0 0 (AX false ad)) (F0 m 37 ls []) := by
            intro n
            induction n with
            | zero =>
              intro x4_9 M_10 H locs ls x4_11 M_12 hW hl hr hk
              exact absurd hr (by simp [f_X11_layVelocities_L37])
            | succ n ih =>
              intro x4_9 M_10 H locs ls x4_11 M_12 hW hl hr hk
              rw [f_X11_layVelocities_L37] at hr
              refine lv_iload hx hb dX11_layVelocities_37 (lv_at hl 4 rfl) ?_
              refine lv_if_le (tgt := 77) hx hb dX11_layVelocities_39 (by decide) (fun c1 => ?_) (fun c1 => ?_)
              · have hr := br_p c1 hr
                obtain ⟨e1, e2⟩ := Prod.mk.inj (Option.some.inj hr)
                subst e1
                subst e2
                exact hk _ _ _ hW (lv_sub hl [0, 1, 2, 3, 4] rfl)
              · have hr := br_n c1 hr
                refine lv_aload_n hx hb dX11_layVelocities_42 rfl (lv_at hl 1 rfl) ?_
                refine g11_24 hx hb hts hi11 hown hK hW (k := 0) rfl (hts _ (wm 3 rfl)) dX11_layVelocities_43 ?_
                refine lv_iload hx hb dX11_layVelocities_46 (lv_at hl 4 rfl) ?_
                refine lv_iconst (v := (1 : Int32)) hx hb dX11_layVelocities_48 (by decide) ?_
                refine lv_isub hx hb dX11_layVelocities_49 ?_
                obtain ⟨hn50, hr⟩ := chk_e hr
                refine xiald hx hb hK hW (k := 16) (t := 28) rfl (by decide) (by decide) rfl (n := 12) hn50 (jx := (ix (x4_9 - (1 : Int32)))) rfl dX11_layVelocities_50 ?_
                refine lv_iload_n hx hb dX11_layVelocities_51 rfl (lv_at hl 0 rfl) ?_
                refine lv_icmp_le (tgt := 77) hx hb dX11_layVelocities_52 (by decide) (fun c1 => ?_) (fun c1 => ?_)
                · have hr := br_p c1 hr
                  obtain ⟨e1, e2⟩ := Prod.mk.inj (Option.some.inj hr)
                  subst e1
                  subst e2
                  exact hk _ _ _ hW (lv_sub hl [0, 1, 2, 3, 4] rfl)
                · have hr := br_n c1 hr
                  refine lv_aload_n hx hb dX11_layVelocities_55 rfl (lv_at hl 1 rfl) ?_
                  refine g11_24 hx hb hts hi11 hown hK hW (k := 0) rfl (hts _ (wm 3 rfl)) dX11_layVelocities_56 ?_
                  refine lv_iload hx hb dX11_layVelocities_59 (lv_at hl 4 rfl) ?_
                  refine lv_aload_n hx hb dX11_layVelocities_61 rfl (lv_at hl 1 rfl) ?_
                  refine g11_24 hx hb hts hi11 hown hK hW (k := 0) rfl (hts _ (wm 3 rfl)) dX11_layVelocities_62 ?_
                  refine lv_iload hx hb dX11_layVelocities_65 (lv_at hl 4 rfl) ?_
                  refine lv_iconst (v := (1 : Int32)) hx hb dX11_layVelocities_67 (by decide) ?_
                  refine lv_isub hx hb dX11_layVelocities_68 ?_
                  obtain ⟨hn69, hr⟩ := chk_e hr
                  refine xiald hx hb hK hW (k := 16) (t := 28) rfl (by decide) (by decide) rfl (n := 12) hn69 (jx := (ix (x4_9 - (1 : Int32)))) rfl dX11_layVelocities_69 ?_
                  obtain ⟨hn70, hr⟩ := chk_e hr
                  obtain ⟨M_13, eM_13, hr⟩ := lt1_e hr
                  refine xiast hx hb hK hW (k := 16) (t := 28) rfl (by decide) (by decide) rfl (n := 12) hn70 (jx := (ix x4_9)) rfl dX11_layVelocities_70 (fun H locs hW => ?_)
                  rw [← eM_13] at hW
                  obtain ⟨x4_14, ex4_14, hr⟩ := lt1_e hr
                  refine lv_iinc (v := x4_14) (lv' := [(4, .int x4_14), (3, .int x3_6), (0, .ref (ad 0)), (1, .int x1_1), (2, .int x2_2)]) hx hb dX11_layVelocities_71 hl (k := 4) rfl (by rw [ex4_14]; rfl) (by decide) rfl (fun ls hl => ?_)
                  refine lv_goto (tgt := 37) hx hb dX11_layVelocities_74 (by decide) ?_
                  exact ih x4_14 M_13 _ _ _ _ _ hW (lv_sub hl [1, 2, 3, 4, 0] rfl) hr hk
          obtain ⟨x4_11, M_12, hr, hr3⟩ := ob2_e hr
          refine hL37_2 1000 x1_1 M_3 _ _ _ x4_11 M_12 hW (lv_sub hl [1, 2, 3, 4, 0] rfl) hr (fun H locs ls hW hl => ?_)
          clear hr
          have hr := hr3
          refine lv_aload_n hx hb dX11_layVelocities_77 rfl (lv_at hl 1 rfl) ?_
          refine g11_24 hx hb hts hi11 hown hK hW (k := 0) rfl (hts _ (wm 3 rfl)) dX11_layVelocities_78 ?_
          refine lv_iload hx hb dX11_layVelocities_81 (lv_at hl 4 rfl) ?_
          refine lv_iload_n hx hb dX11_layVelocities_83 rfl (lv_at hl 0 rfl) ?_
          obtain ⟨hn84, hr⟩ := chk_e hr
          obtain ⟨M_15, eM_15, hr⟩ := lt1_e hr
          refine xiast hx hb hK hW (k := 16) (t := 28) rfl (by decide) (by decide) rfl (n := 12) hn84 (jx := (ix x4_11)) rfl dX11_layVelocities_84 (fun H locs hW => ?_)
          rw [← eM_15] at hW
          obtain ⟨x1_16, ex1_16, hr⟩ := lt1_e hr
          refine lv_iinc (v := x1_16) (lv' := [(1, .int x1_16), (3, .int x3_6), (0, .ref (ad 0)), (2, .int x2_2), (4, .int x4_11)]) hx hb dX11_layVelocities_85 hl (k := 2) rfl (by rw [ex1_16]; rfl) (by decide) rfl (fun ls hl => ?_)
          obtain ⟨e1, e2⟩ := Prod.mk.inj (Option.some.inj hr)
          subst e1
          subst e2
          exact hj88_8 _ _ _ hW (lv_sub hl [2, 3, 0] rfl)
  obtain ⟨x1_4, M_5, hr, hr3⟩ := ob2_e hr
  refine hL4_1 1000 (0 : Int32) (0 : Int32) M _ _ _ x1_4 M_5 hW (lv_sub hl [2, 1, 0] rfl) hr (fun H locs ls hW hl => ?_)
  clear hr
  have hr := hr3
  refine lv_iload_n hx hb dX11_layVelocities_94 rfl (lv_at hl 0 rfl) ?_
  obtain ⟨e1, e2⟩ := Prod.mk.inj (Option.some.inj hr)
  rw [← e1, ← e2]
  exact xiret hx hb hr0 hlocks hW adR_rf dX11_layVelocities_95

set_option maxHeartbeats 4000000 in
set_option maxRecDepth 100000 in
theorem c_X11_statistic (l : Launch) (D : va_G) (cA : Nat → ClassId) (ad : Nat → Nat) (M : Mm) (x1 : Int32) {r : Int32} {M' : Mm} (hr : f_X11_statistic x1 M = some (r, M')) : Met l yX11_statistic wsX11_statistic ({ frames := 1, cells := 0, slots := 0, locals := 24 }) (PcX D false cA ad M [.ref (ad 0), .int x1]) (QiX false D false cA ad r M') 0 0 (AX false ad) := by
  refine Met.ofW (cc := cX11_statistic) (maxL := 6) (ret := (some .int)) (by decide) rfl ?_
  intro p e s m args below meth c s₁ B hml hv
  obtain ⟨hav, hP0, hK⟩ := hv
  have hx := B.exec
  have hb := B.bytes
  have hr0 := B.returns
  have hts := atoms_spec (ws := wsX11_statistic) B.pre
  have hown : s.vm.findClass RX11 = some m.cls := findClass_of_methodNamed B.named
  have hlocks := B.notSynchronized
  have hW := xstart hP0
  have hi11 : ∀ w ∈ wsX110, w ∈ wsX11_statistic := fun w h => List.mem_cons_of_mem _ (List.mem_append_right _ h)
  have hl := lv_entry ([.ref (ad 0), .int x1]) (n := 6) (Nat.le_of_ble_eq_true rfl)
  have hef := lg_entry_eq m ([.ref (ad 0), .int x1]) 6
  rw [← hav] at hef
  rw [hef]
  clear hef
  generalize (lg_sl ([.ref (ad 0), .int x1]) ++ List.replicate (6 - (lg_sl ([.ref (ad 0), .int x1])).length) Slot.unset).toArray = ls at hl ⊢
  have hl : lv_has ls 6 [(0, .ref (ad 0)), (1, .int x1)] := hl
  clear hP0
  unfold f_X11_statistic at hr
  refine lv_iload_n hx hb dX11_statistic_0 rfl (lv_at hl 1 rfl) ?_
  refine lv_iconst (v := (0 : Int32)) hx hb dX11_statistic_1 (by decide) ?_
  refine lv_iconst (v := (4 : Int32)) hx hb dX11_statistic_2 (by decide) ?_
  obtain ⟨r_1, hc3, hr⟩ := ob1_e hr
  refine xk_i (va_runS (As := [.int x1, .int (0 : Int32), .int (4 : Int32)]) (rest := []) ⟨hx, hb, hml, hown, hts⟩ (c_X11_in l D cA ad M x1 (0 : Int32) (4 : Int32) hc3) (va_cwS 3 hts gX11_statistic_X11_in rfl rfl rfl (by decide +kernel) ⟨Nat.le_of_ble_eq_true rfl, Nat.le_of_ble_eq_true rfl⟩) (xpreS hK hW) rfl rfl hl.1 rfl (lv_room (Nat.le_of_ble_eq_true rfl)) dX11_statistic_3 ⟨Nat.le_of_ble_eq_true rfl, Nat.le_of_ble_eq_true rfl⟩) hW (fun H locs hW => ?_)
  refine lv_if_ne (tgt := 12) hx hb dX11_statistic_6 (by decide) (fun c1 => ?_) (fun c1 => ?_)
  · have hr := br_n c1 hr
    refine lv_aload_n hx hb dX11_statistic_12 rfl (lv_at hl 0 rfl) ?_
    obtain ⟨r_3, M_2, hc13, hr⟩ := ob2_e hr
    refine xk_i (va_runV (As := []) (rest := []) ⟨hx, hb, hml, hown, hts⟩ (c_X11_layVelocities l D cA ad M hc13) (cwV 0 hts gX11_statistic_X11_layVelocities rfl rfl rfl (by decide +kernel) ⟨Nat.le_of_ble_eq_true rfl, Nat.le_of_ble_eq_true rfl⟩) (xpreV hK hW (k := 0) rfl (by decide) rfl) rfl rfl hl.1 rfl (lv_room (Nat.le_of_ble_eq_true rfl)) dX11_statistic_13 ⟨Nat.le_of_ble_eq_true rfl, Nat.le_of_ble_eq_true rfl⟩) hW (fun H locs hW => ?_)
    refine lv_istore_n (lv' := [(2, .int r_3), (0, .ref (ad 0)), (1, .int x1)]) hx hb dX11_statistic_16 rfl hl (by decide) rfl (fun ls hl => ?_)
    refine lv_iload_n hx hb dX11_statistic_17 rfl (lv_at hl 2 rfl) ?_
    refine lv_if_eq (tgt := 25) hx hb dX11_statistic_18 (by decide) (fun c1 => ?_) (fun c1 => ?_)
    · have hr := br_p c1 hr
      refine lv_iload_n hx hb dX11_statistic_25 rfl (lv_at hl 2 rfl) ?_
      refine lv_if_ne (tgt := 33) hx hb dX11_statistic_26 (by decide) (fun c1 => ?_) (fun c1 => ?_)
      · have hr := br_n c1 hr
        refine lv_ldc (v := (-2000000005 : Int32)) hx hb hown (hts _ (wm 2 rfl)) dX11_statistic_33 ?_
        obtain ⟨e1, e2⟩ := Prod.mk.inj (Option.some.inj hr)
        rw [← e1, ← e2]
        exact xiret hx hb hr0 hlocks hW adR_rf dX11_statistic_35
      · have hr := br_p c1 hr
        refine lv_iload_n hx hb dX11_statistic_29 rfl (lv_at hl 0 rfl) ?_
        refine lv_goto (tgt := 35) hx hb dX11_statistic_30 (by decide) ?_
        obtain ⟨e1, e2⟩ := Prod.mk.inj (Option.some.inj hr)
        rw [← e1, ← e2]
        exact xiret hx hb hr0 hlocks hW adR_rf dX11_statistic_35
    · have hr := br_n c1 hr
      refine lv_iload_n hx hb dX11_statistic_21 rfl (lv_at hl 0 rfl) ?_
      refine lv_if_ne (tgt := 36) hx hb dX11_statistic_22 (by decide) (fun c1 => ?_) (fun c1 => ?_)
      · have hr := br_n c1 hr
        refine lv_lconst (v := (0 : Int64)) hx hb dX11_statistic_36 (by decide) ?_
        refine lv_lstore_n (lv' := [(3, .long (0 : Int64)), (2, .int r_3), (0, .ref (ad 0)), (1, .int x1)]) hx hb dX11_statistic_37 rfl hl (by decide) rfl (fun ls hl => ?_)
        refine lv_iconst (v := (0 : Int32)) hx hb dX11_statistic_38 (by decide) ?_
        refine lv_istore (lv' := [(5, .int (0 : Int32)), (3, .long (0 : Int64)), (2, .int r_3), (0, .ref (ad 0)), (1, .int x1)]) hx hb dX11_statistic_39 hl (by decide) rfl (fun ls hl => ?_)
        have hL41_1 : ∀ (n : Nat) (x3_4 : Int64) (x5_5 : Int32) (H : Heap) (locs : List Loc) (ls : Array Slot) (x3_6 : Int64), Xw D false cA ad M_2 (AX false ad) s.heap H locs → lv_has ls 6 [(2, .int r_3), (0, .ref (ad 0)), (1, .int x1), (3, .long x3_4), (5, .int x5_5)] → f_X11_statistic_L41 M_2 r_3 n x3_4 x5_5 = some x3_6 → (∀ (H : Heap) (locs : List Loc) (ls : Array Slot), Xw D false cA ad M_2 (AX false ad) s.heap H locs → lv_has ls 6 [(2, .int r_3), (0, .ref (ad 0)), (1, .int x1), (3, .long x3_6)] → W p l e (headSpec wsX11_statistic { frames := 1, cells := 0, slots := 0, locals := 24 }).room s m args below meth c H locs 0 0 (MQ below (QiX false D false cA ad r M') args s 0 0 (AX false ad)) (F0 m 64 ls [])) → W p l e (headSpec wsX11_statistic { frames := 1, cells := 0, slots := 0, locals := 24 }).room s m args below meth c H locs 0 0 (MQ below (QiX false D false cA ad r M') args s 0 0 (AX false ad)) (F0 m 41 ls []) := by
          intro n
          induction n with
          | zero =>
            intro x3_4 x5_5 H locs ls x3_6 hW hl hr hk
            exact absurd hr (by simp [f_X11_statistic_L41])
          | succ n ih =>
            intro x3_4 x5_5 H locs ls x3_6 hW hl hr hk
            rw [f_X11_statistic_L41] at hr
            refine lv_iload hx hb dX11_statistic_41 (lv_at hl 4 rfl) ?_
            refine lv_iload_n hx hb dX11_statistic_43 rfl (lv_at hl 0 rfl) ?_
            refine lv_icmp_ge (tgt := 64) hx hb dX11_statistic_44 (by decide) (fun c1 => ?_) (fun c1 => ?_)
            · have hr := br_p c1 hr
              have e1 := Option.some.inj hr
              subst e1
              exact hk _ _ _ hW (lv_sub hl [0, 1, 2, 3] rfl)
            · have hr := br_n c1 hr
              refine lv_lload_n hx hb dX11_statistic_47 rfl (lv_at hl 3 rfl) ?_
              refine lv_aload_n hx hb dX11_statistic_48 rfl (lv_at hl 1 rfl) ?_
              refine g11_24 hx hb hts hi11 hown hK hW (k := 0) rfl (hts _ (wm 3 rfl)) dX11_statistic_49 ?_
              refine lv_iload hx hb dX11_statistic_52 (lv_at hl 4 rfl) ?_
              obtain ⟨hn54, hr⟩ := chk_e hr
              refine xiald hx hb hK hW (k := 16) (t := 28) rfl (by decide) (by decide) rfl (n := 12) hn54 (jx := (ix x5_5)) rfl dX11_statistic_54 ?_
              refine lv_i2l hx hb dX11_statistic_55 rfl ?_
              refine lv_ladd hx hb dX11_statistic_56 ?_
              obtain ⟨x3_7, ex3_7, hr⟩ := lt1_e hr
              rw [← ex3_7]
              refine lv_lstore_n (lv' := [(3, .long x3_7), (2, .int r_3), (0, .ref (ad 0)), (1, .int x1), (5, .int x5_5)]) hx hb dX11_statistic_57 rfl hl (by decide) rfl (fun ls hl => ?_)
              obtain ⟨x5_8, ex5_8, hr⟩ := lt1_e hr
              refine lv_iinc (v := x5_8) (lv' := [(5, .int x5_8), (3, .long x3_7), (2, .int r_3), (0, .ref (ad 0)), (1, .int x1)]) hx hb dX11_statistic_58 hl (k := 4) rfl (by rw [ex5_8]; rfl) (by decide) rfl (fun ls hl => ?_)
              refine lv_goto (tgt := 41) hx hb dX11_statistic_61 (by decide) ?_
              exact ih x3_7 x5_8 _ _ _ _ hW (lv_sub hl [2, 3, 4, 1, 0] rfl) hr hk
        obtain ⟨x3_6, hr, hr3⟩ := ob1_e hr
        refine hL41_1 1000 (0 : Int64) (0 : Int32) _ _ _ x3_6 hW (lv_sub hl [2, 3, 4, 1, 0] rfl) hr (fun H locs ls hW hl => ?_)
        clear hr
        have hr := hr3
        refine lv_iload_n hx hb dX11_statistic_64 rfl (lv_at hl 2 rfl) ?_
        by_cases c65_0 : x1 = (1 : Int32)
        · have hr := br_p c65_0 hr
          refine lv_tableIn (tgt := 92) hx hb dX11_statistic_65 (by rw [c65_0]; decide) (by rw [c65_0]; decide) (off := 27) (by rw [c65_0]; decide) (by decide) ?_
          refine lv_aload_n hx hb dX11_statistic_92 rfl (lv_at hl 1 rfl) ?_
          refine g11_24 hx hb hts hi11 hown hK hW (k := 0) rfl (hts _ (wm 3 rfl)) dX11_statistic_93 ?_
          refine lv_iconst (v := (0 : Int32)) hx hb dX11_statistic_96 (by decide) ?_
          refine xiald hx hb hK hW (k := 16) (t := 28) rfl (by decide) (by decide) rfl (n := 12) (by decide) (jx := 0) (by decide) dX11_statistic_97 ?_
          obtain ⟨e1, e2⟩ := Prod.mk.inj (Option.some.inj hr)
          rw [← e1, ← e2]
          exact xiret hx hb hr0 hlocks hW adR_rf dX11_statistic_98
        · have hr := br_n c65_0 hr
          by_cases c65_1 : x1 = (2 : Int32)
          · have hr := br_p c65_1 hr
            refine lv_tableIn (tgt := 99) hx hb dX11_statistic_65 (by rw [c65_1]; decide) (by rw [c65_1]; decide) (off := 34) (by rw [c65_1]; decide) (by decide) ?_
            refine lv_aload_n hx hb dX11_statistic_99 rfl (lv_at hl 1 rfl) ?_
            refine g11_24 hx hb hts hi11 hown hK hW (k := 0) rfl (hts _ (wm 3 rfl)) dX11_statistic_100 ?_
            refine lv_iload_n hx hb dX11_statistic_103 rfl (lv_at hl 0 rfl) ?_
            refine lv_iconst (v := (1 : Int32)) hx hb dX11_statistic_104 (by decide) ?_
            refine lv_isub hx hb dX11_statistic_105 ?_
            obtain ⟨hn106, hr⟩ := chk_e hr
            refine xiald hx hb hK hW (k := 16) (t := 28) rfl (by decide) (by decide) rfl (n := 12) hn106 (jx := (ix (r_3 - (1 : Int32)))) rfl dX11_statistic_106 ?_
            obtain ⟨e1, e2⟩ := Prod.mk.inj (Option.some.inj hr)
            rw [← e1, ← e2]
            exact xiret hx hb hr0 hlocks hW adR_rf dX11_statistic_107
          · have hr := br_n c65_1 hr
            by_cases c65_2 : x1 = (3 : Int32)
            · have hr := br_p c65_2 hr
              refine lv_tableIn (tgt := 108) hx hb dX11_statistic_65 (by rw [c65_2]; decide) (by rw [c65_2]; decide) (off := 43) (by rw [c65_2]; decide) (by decide) ?_
              refine lv_lload_n hx hb dX11_statistic_108 rfl (lv_at hl 3 rfl) ?_
              refine lv_iload_n hx hb dX11_statistic_109 rfl (lv_at hl 0 rfl) ?_
              refine lv_i2l hx hb dX11_statistic_110 rfl ?_
              obtain ⟨hc111, hr⟩ := chk_e hr
              refine lv_ldiv hx hb dX11_statistic_111 (of_decide_eq_true hc111) ?_
              refine lv_l2i hx hb dX11_statistic_112 rfl ?_
              obtain ⟨e1, e2⟩ := Prod.mk.inj (Option.some.inj hr)
              rw [← e1, ← e2]
              exact xiret hx hb hr0 hlocks hW adR_rf dX11_statistic_113
            · have hr := br_n c65_2 hr
              have hsw : x1.toInt < 1 ∨ 3 < x1.toInt := by
                have hsw0 := lv_neT c65_0 (a := 1) rfl
                have hsw1 := lv_neT c65_1 (a := 2) rfl
                have hsw2 := lv_neT c65_2 (a := 3) rfl
                omega
              refine lv_tableOut (tgt := 114) hx hb dX11_statistic_65 hsw (by decide) ?_
              refine lv_iload_n hx hb dX11_statistic_114 rfl (lv_at hl 0 rfl) ?_
              refine lv_iconst (v := (2 : Int32)) hx hb dX11_statistic_115 (by decide) ?_
              refine lv_irem hx hb dX11_statistic_116 (by decide) ?_
              refine lv_iconst (v := (1 : Int32)) hx hb dX11_statistic_117 (by decide) ?_
              refine lv_icmp_ne (tgt := 132) hx hb dX11_statistic_118 (by decide) (fun c1 => ?_) (fun c1 => ?_)
              · have hr := br_n c1 hr
                refine lv_aload_n hx hb dX11_statistic_132 rfl (lv_at hl 1 rfl) ?_
                refine g11_24 hx hb hts hi11 hown hK hW (k := 0) rfl (hts _ (wm 3 rfl)) dX11_statistic_133 ?_
                refine lv_iload_n hx hb dX11_statistic_136 rfl (lv_at hl 0 rfl) ?_
                refine lv_iconst (v := (2 : Int32)) hx hb dX11_statistic_137 (by decide) ?_
                refine lv_idiv hx hb dX11_statistic_138 (by decide) ?_
                refine lv_iconst (v := (1 : Int32)) hx hb dX11_statistic_139 (by decide) ?_
                refine lv_isub hx hb dX11_statistic_140 ?_
                obtain ⟨hn141, hr⟩ := chk_e hr
                refine xiald hx hb hK hW (k := 16) (t := 28) rfl (by decide) (by decide) rfl (n := 12) hn141 (jx := (ix ((r_3 / (2 : Int32)) - (1 : Int32)))) rfl dX11_statistic_141 ?_
                refine lv_aload_n hx hb dX11_statistic_142 rfl (lv_at hl 1 rfl) ?_
                refine g11_24 hx hb hts hi11 hown hK hW (k := 0) rfl (hts _ (wm 3 rfl)) dX11_statistic_143 ?_
                refine lv_iload_n hx hb dX11_statistic_146 rfl (lv_at hl 0 rfl) ?_
                refine lv_iconst (v := (2 : Int32)) hx hb dX11_statistic_147 (by decide) ?_
                refine lv_idiv hx hb dX11_statistic_148 (by decide) ?_
                obtain ⟨hn149, hr⟩ := chk_e hr
                refine xiald hx hb hK hW (k := 16) (t := 28) rfl (by decide) (by decide) rfl (n := 12) hn149 (jx := (ix (r_3 / (2 : Int32)))) rfl dX11_statistic_149 ?_
                refine lv_iadd hx hb dX11_statistic_150 ?_
                refine lv_iconst (v := (2 : Int32)) hx hb dX11_statistic_151 (by decide) ?_
                refine lv_idiv hx hb dX11_statistic_152 (by decide) ?_
                obtain ⟨e1, e2⟩ := Prod.mk.inj (Option.some.inj hr)
                rw [← e1, ← e2]
                exact xiret hx hb hr0 hlocks hW adR_rf dX11_statistic_153
              · have hr := br_p c1 hr
                refine lv_aload_n hx hb dX11_statistic_121 rfl (lv_at hl 1 rfl) ?_
                refine g11_24 hx hb hts hi11 hown hK hW (k := 0) rfl (hts _ (wm 3 rfl)) dX11_statistic_122 ?_
                refine lv_iload_n hx hb dX11_statistic_125 rfl (lv_at hl 0 rfl) ?_
                refine lv_iconst (v := (2 : Int32)) hx hb dX11_statistic_126 (by decide) ?_
                refine lv_idiv hx hb dX11_statistic_127 (by decide) ?_
                obtain ⟨hn128, hr⟩ := chk_e hr
                refine xiald hx hb hK hW (k := 16) (t := 28) rfl (by decide) (by decide) rfl (n := 12) hn128 (jx := (ix (r_3 / (2 : Int32)))) rfl dX11_statistic_128 ?_
                refine lv_goto (tgt := 153) hx hb dX11_statistic_129 (by decide) ?_
                obtain ⟨e1, e2⟩ := Prod.mk.inj (Option.some.inj hr)
                rw [← e1, ← e2]
                exact xiret hx hb hr0 hlocks hW adR_rf dX11_statistic_153
      · have hr := br_p c1 hr
        refine lv_iload_n hx hb dX11_statistic_25 rfl (lv_at hl 2 rfl) ?_
        refine lv_if_ne (tgt := 33) hx hb dX11_statistic_26 (by decide) (fun c1 => ?_) (fun c1 => ?_)
        · have hr := br_n c1 hr
          refine lv_ldc (v := (-2000000005 : Int32)) hx hb hown (hts _ (wm 2 rfl)) dX11_statistic_33 ?_
          obtain ⟨e1, e2⟩ := Prod.mk.inj (Option.some.inj hr)
          rw [← e1, ← e2]
          exact xiret hx hb hr0 hlocks hW adR_rf dX11_statistic_35
        · have hr := br_p c1 hr
          refine lv_iload_n hx hb dX11_statistic_29 rfl (lv_at hl 0 rfl) ?_
          refine lv_goto (tgt := 35) hx hb dX11_statistic_30 (by decide) ?_
          obtain ⟨e1, e2⟩ := Prod.mk.inj (Option.some.inj hr)
          rw [← e1, ← e2]
          exact xiret hx hb hr0 hlocks hW adR_rf dX11_statistic_35
  · have hr := br_p c1 hr
    refine lv_ldc (v := (-2000000002 : Int32)) hx hb hown (hts _ (wm 1 rfl)) dX11_statistic_9 ?_
    obtain ⟨e1, e2⟩ := Prod.mk.inj (Option.some.inj hr)
    rw [← e1, ← e2]
    exact xiret hx hb hr0 hlocks hW adR_rf dX11_statistic_11

set_option maxHeartbeats 4000000 in
set_option maxRecDepth 100000 in
theorem c_X11_isAhead (l : Launch) (D : va_G) (cA : Nat → ClassId) (ad : Nat → Nat) (M : Mm) (x1 : Int32) (x2 : Int32) {r : Int32} (hr : f_X11_isAhead x1 x2 M = some r) : Met l yX11_isAhead wsX11_isAhead ({ frames := 2, cells := 0, slots := 0, locals := 43 }) (PcX D false cA ad M [.ref (ad 0), .int x1, .int x2]) (QiX false D false cA ad r M) 0 0 (AX false ad) := by
  refine Met.ofW (cc := cX11_isAhead) (maxL := 5) (ret := (some .boolean)) (by decide) rfl ?_
  intro p e s m args below meth c s₁ B hml hv
  obtain ⟨hav, hP0, hK⟩ := hv
  have hx := B.exec
  have hb := B.bytes
  have hr0 := B.returns
  have hts := atoms_spec (ws := wsX11_isAhead) B.pre
  have hown : s.vm.findClass RX11 = some m.cls := findClass_of_methodNamed B.named
  have hlocks := B.notSynchronized
  have hW := xstart hP0
  have hl := lv_entry ([.ref (ad 0), .int x1, .int x2]) (n := 5) (Nat.le_of_ble_eq_true rfl)
  have hef := lg_entry_eq m ([.ref (ad 0), .int x1, .int x2]) 5
  rw [← hav] at hef
  rw [hef]
  clear hef
  generalize (lg_sl ([.ref (ad 0), .int x1, .int x2]) ++ List.replicate (5 - (lg_sl ([.ref (ad 0), .int x1, .int x2])).length) Slot.unset).toArray = ls at hl ⊢
  have hl : lv_has ls 5 [(0, .ref (ad 0)), (1, .int x1), (2, .int x2)] := hl
  clear hP0
  unfold f_X11_isAhead at hr
  refine lv_aload_n hx hb dX11_isAhead_0 rfl (lv_at hl 0 rfl) ?_
  refine lv_iload_n hx hb dX11_isAhead_1 rfl (lv_at hl 1 rfl) ?_
  obtain ⟨r_1, hc2, hr⟩ := ob1_e hr
  refine xk_i (va_runV (As := [.int x1]) (rest := []) ⟨hx, hb, hml, hown, hts⟩ (c_X11_fails l D cA ad M x1 hc2) (cwV 1 hts gX11_isAhead_X11_fails rfl rfl rfl (by decide +kernel) ⟨Nat.le_of_ble_eq_true rfl, Nat.le_of_ble_eq_true rfl⟩) (xpreV hK hW (k := 0) rfl (by decide) rfl) rfl rfl hl.1 rfl (lv_room (Nat.le_of_ble_eq_true rfl)) dX11_isAhead_2 ⟨Nat.le_of_ble_eq_true rfl, Nat.le_of_ble_eq_true rfl⟩) hW (fun H locs hW => ?_)
  refine lv_aload_n hx hb dX11_isAhead_5 rfl (lv_at hl 0 rfl) ?_
  refine lv_iload_n hx hb dX11_isAhead_6 rfl (lv_at hl 2 rfl) ?_
  obtain ⟨r_2, hc7, hr⟩ := ob1_e hr
  refine xk_i (va_runV (As := [.int x2]) (rest := [.int r_1]) ⟨hx, hb, hml, hown, hts⟩ (c_X11_fails l D cA ad M x2 hc7) (cwV 1 hts gX11_isAhead_X11_fails rfl rfl rfl (by decide +kernel) ⟨Nat.le_of_ble_eq_true rfl, Nat.le_of_ble_eq_true rfl⟩) (xpreV hK hW (k := 0) rfl (by decide) rfl) rfl rfl hl.1 rfl (lv_room (Nat.le_of_ble_eq_true rfl)) dX11_isAhead_7 ⟨Nat.le_of_ble_eq_true rfl, Nat.le_of_ble_eq_true rfl⟩) hW (fun H locs hW => ?_)
  refine lv_icmp_eq (tgt := 19) hx hb dX11_isAhead_10 (by decide) (fun c1 => ?_) (fun c1 => ?_)
  · have hr := br_p c1 hr
    refine lv_aload_n hx hb dX11_isAhead_19 rfl (lv_at hl 0 rfl) ?_
    refine lv_iload_n hx hb dX11_isAhead_20 rfl (lv_at hl 1 rfl) ?_
    refine lv_bipush (v := (10 : Int32)) hx hb dX11_isAhead_21 (by decide) ?_
    obtain ⟨r_3, hc23, hr⟩ := ob1_e hr
    refine xk_i (va_runV (As := [.int x1, .int (10 : Int32)]) (rest := []) ⟨hx, hb, hml, hown, hts⟩ (c_X11_of l D cA ad M x1 (10 : Int32) hc23) (cwV 2 hts gX11_isAhead_X11_of rfl rfl rfl (by decide +kernel) ⟨Nat.le_of_ble_eq_true rfl, Nat.le_of_ble_eq_true rfl⟩) (xpreV hK hW (k := 0) rfl (by decide) rfl) rfl rfl hl.1 rfl (lv_room (Nat.le_of_ble_eq_true rfl)) dX11_isAhead_23 ⟨Nat.le_of_ble_eq_true rfl, Nat.le_of_ble_eq_true rfl⟩) hW (fun H locs hW => ?_)
    refine lv_aload_n hx hb dX11_isAhead_26 rfl (lv_at hl 0 rfl) ?_
    refine lv_iload_n hx hb dX11_isAhead_27 rfl (lv_at hl 2 rfl) ?_
    refine lv_bipush (v := (10 : Int32)) hx hb dX11_isAhead_28 (by decide) ?_
    obtain ⟨r_4, hc30, hr⟩ := ob1_e hr
    refine xk_i (va_runV (As := [.int x2, .int (10 : Int32)]) (rest := [.int r_3]) ⟨hx, hb, hml, hown, hts⟩ (c_X11_of l D cA ad M x2 (10 : Int32) hc30) (cwV 2 hts gX11_isAhead_X11_of rfl rfl rfl (by decide +kernel) ⟨Nat.le_of_ble_eq_true rfl, Nat.le_of_ble_eq_true rfl⟩) (xpreV hK hW (k := 0) rfl (by decide) rfl) rfl rfl hl.1 rfl (lv_room (Nat.le_of_ble_eq_true rfl)) dX11_isAhead_30 ⟨Nat.le_of_ble_eq_true rfl, Nat.le_of_ble_eq_true rfl⟩) hW (fun H locs hW => ?_)
    refine lv_icmp_eq (tgt := 59) hx hb dX11_isAhead_33 (by decide) (fun c1 => ?_) (fun c1 => ?_)
    · have hr := br_p c1 hr
      refine lv_aload_n hx hb dX11_isAhead_59 rfl (lv_at hl 0 rfl) ?_
      refine lv_iload_n hx hb dX11_isAhead_60 rfl (lv_at hl 1 rfl) ?_
      refine lv_bipush (v := (11 : Int32)) hx hb dX11_isAhead_61 (by decide) ?_
      obtain ⟨r_5, hc63, hr⟩ := ob1_e hr
      refine xk_i (va_runV (As := [.int x1, .int (11 : Int32)]) (rest := []) ⟨hx, hb, hml, hown, hts⟩ (c_X11_of l D cA ad M x1 (11 : Int32) hc63) (cwV 2 hts gX11_isAhead_X11_of rfl rfl rfl (by decide +kernel) ⟨Nat.le_of_ble_eq_true rfl, Nat.le_of_ble_eq_true rfl⟩) (xpreV hK hW (k := 0) rfl (by decide) rfl) rfl rfl hl.1 rfl (lv_room (Nat.le_of_ble_eq_true rfl)) dX11_isAhead_63 ⟨Nat.le_of_ble_eq_true rfl, Nat.le_of_ble_eq_true rfl⟩) hW (fun H locs hW => ?_)
      refine lv_aload_n hx hb dX11_isAhead_66 rfl (lv_at hl 0 rfl) ?_
      refine lv_iload_n hx hb dX11_isAhead_67 rfl (lv_at hl 1 rfl) ?_
      refine lv_bipush (v := (12 : Int32)) hx hb dX11_isAhead_68 (by decide) ?_
      obtain ⟨r_6, hc70, hr⟩ := ob1_e hr
      refine xk_i (va_runV (As := [.int x1, .int (12 : Int32)]) (rest := [.int r_5]) ⟨hx, hb, hml, hown, hts⟩ (c_X11_of l D cA ad M x1 (12 : Int32) hc70) (cwV 2 hts gX11_isAhead_X11_of rfl rfl rfl (by decide +kernel) ⟨Nat.le_of_ble_eq_true rfl, Nat.le_of_ble_eq_true rfl⟩) (xpreV hK hW (k := 0) rfl (by decide) rfl) rfl rfl hl.1 rfl (lv_room (Nat.le_of_ble_eq_true rfl)) dX11_isAhead_70 ⟨Nat.le_of_ble_eq_true rfl, Nat.le_of_ble_eq_true rfl⟩) hW (fun H locs hW => ?_)
      refine lv_iadd hx hb dX11_isAhead_73 ?_
      obtain ⟨x3_7, ex3_7, hr⟩ := lt1_e hr
      rw [← ex3_7]
      refine lv_istore_n (lv' := [(3, .int x3_7), (0, .ref (ad 0)), (1, .int x1), (2, .int x2)]) hx hb dX11_isAhead_74 rfl hl (by decide) rfl (fun ls hl => ?_)
      refine lv_aload_n hx hb dX11_isAhead_75 rfl (lv_at hl 1 rfl) ?_
      refine lv_iload_n hx hb dX11_isAhead_76 rfl (lv_at hl 3 rfl) ?_
      refine lv_bipush (v := (11 : Int32)) hx hb dX11_isAhead_77 (by decide) ?_
      obtain ⟨r_8, hc79, hr⟩ := ob1_e hr
      refine xk_i (va_runV (As := [.int x2, .int (11 : Int32)]) (rest := []) ⟨hx, hb, hml, hown, hts⟩ (c_X11_of l D cA ad M x2 (11 : Int32) hc79) (cwV 2 hts gX11_isAhead_X11_of rfl rfl rfl (by decide +kernel) ⟨Nat.le_of_ble_eq_true rfl, Nat.le_of_ble_eq_true rfl⟩) (xpreV hK hW (k := 0) rfl (by decide) rfl) rfl rfl hl.1 rfl (lv_room (Nat.le_of_ble_eq_true rfl)) dX11_isAhead_79 ⟨Nat.le_of_ble_eq_true rfl, Nat.le_of_ble_eq_true rfl⟩) hW (fun H locs hW => ?_)
      refine lv_aload_n hx hb dX11_isAhead_82 rfl (lv_at hl 1 rfl) ?_
      refine lv_iload_n hx hb dX11_isAhead_83 rfl (lv_at hl 3 rfl) ?_
      refine lv_bipush (v := (12 : Int32)) hx hb dX11_isAhead_84 (by decide) ?_
      obtain ⟨r_9, hc86, hr⟩ := ob1_e hr
      refine xk_i (va_runV (As := [.int x2, .int (12 : Int32)]) (rest := [.int r_8]) ⟨hx, hb, hml, hown, hts⟩ (c_X11_of l D cA ad M x2 (12 : Int32) hc86) (cwV 2 hts gX11_isAhead_X11_of rfl rfl rfl (by decide +kernel) ⟨Nat.le_of_ble_eq_true rfl, Nat.le_of_ble_eq_true rfl⟩) (xpreV hK hW (k := 0) rfl (by decide) rfl) rfl rfl hl.1 rfl (lv_room (Nat.le_of_ble_eq_true rfl)) dX11_isAhead_86 ⟨Nat.le_of_ble_eq_true rfl, Nat.le_of_ble_eq_true rfl⟩) hW (fun H locs hW => ?_)
      refine lv_iadd hx hb dX11_isAhead_89 ?_
      obtain ⟨x4_10, ex4_10, hr⟩ := lt1_e hr
      rw [← ex4_10]
      refine lv_istore (lv' := [(4, .int x4_10), (3, .int x3_7), (0, .ref (ad 0)), (1, .int x1), (2, .int x2)]) hx hb dX11_isAhead_90 hl (by decide) rfl (fun ls hl => ?_)
      refine lv_iload_n hx hb dX11_isAhead_92 rfl (lv_at hl 1 rfl) ?_
      refine lv_iload hx hb dX11_isAhead_93 (lv_at hl 0 rfl) ?_
      refine lv_icmp_eq (tgt := 110) hx hb dX11_isAhead_95 (by decide) (fun c1 => ?_) (fun c1 => ?_)
      · have hr := br_p c1 hr
        refine lv_aload_n hx hb dX11_isAhead_110 rfl (lv_at hl 2 rfl) ?_
        refine lv_iload_n hx hb dX11_isAhead_111 rfl (lv_at hl 3 rfl) ?_
        refine lv_iconst (v := (2 : Int32)) hx hb dX11_isAhead_112 (by decide) ?_
        obtain ⟨r_11, hc113, hr⟩ := ob1_e hr
        refine xk_i (va_runV (As := [.int x1, .int (2 : Int32)]) (rest := []) ⟨hx, hb, hml, hown, hts⟩ (c_X11_of l D cA ad M x1 (2 : Int32) hc113) (cwV 2 hts gX11_isAhead_X11_of rfl rfl rfl (by decide +kernel) ⟨Nat.le_of_ble_eq_true rfl, Nat.le_of_ble_eq_true rfl⟩) (xpreV hK hW (k := 0) rfl (by decide) rfl) rfl rfl hl.1 rfl (lv_room (Nat.le_of_ble_eq_true rfl)) dX11_isAhead_113 ⟨Nat.le_of_ble_eq_true rfl, Nat.le_of_ble_eq_true rfl⟩) hW (fun H locs hW => ?_)
        refine lv_aload_n hx hb dX11_isAhead_116 rfl (lv_at hl 2 rfl) ?_
        refine lv_iload_n hx hb dX11_isAhead_117 rfl (lv_at hl 4 rfl) ?_
        refine lv_iconst (v := (2 : Int32)) hx hb dX11_isAhead_118 (by decide) ?_
        obtain ⟨r_12, hc119, hr⟩ := ob1_e hr
        refine xk_i (va_runV (As := [.int x2, .int (2 : Int32)]) (rest := [.int r_11]) ⟨hx, hb, hml, hown, hts⟩ (c_X11_of l D cA ad M x2 (2 : Int32) hc119) (cwV 2 hts gX11_isAhead_X11_of rfl rfl rfl (by decide +kernel) ⟨Nat.le_of_ble_eq_true rfl, Nat.le_of_ble_eq_true rfl⟩) (xpreV hK hW (k := 0) rfl (by decide) rfl) rfl rfl hl.1 rfl (lv_room (Nat.le_of_ble_eq_true rfl)) dX11_isAhead_119 ⟨Nat.le_of_ble_eq_true rfl, Nat.le_of_ble_eq_true rfl⟩) hW (fun H locs hW => ?_)
        refine lv_icmp_eq (tgt := 148) hx hb dX11_isAhead_122 (by decide) (fun c1 => ?_) (fun c1 => ?_)
        · have hr := br_p c1 hr
          refine lv_iload_n hx hb dX11_isAhead_148 rfl (lv_at hl 3 rfl) ?_
          refine lv_iload_n hx hb dX11_isAhead_149 rfl (lv_at hl 4 rfl) ?_
          refine lv_icmp_ge (tgt := 157) hx hb dX11_isAhead_150 (by decide) (fun c1 => ?_) (fun c1 => ?_)
          · have hr := br_p c1 hr
            refine lv_iconst (v := (0 : Int32)) hx hb dX11_isAhead_157 (by decide) ?_
            rw [← Option.some.inj hr]
            exact xzret hx hb hr0 hlocks hW adR_rf (by decide) dX11_isAhead_158
          · have hr := br_n c1 hr
            refine lv_iconst (v := (1 : Int32)) hx hb dX11_isAhead_153 (by decide) ?_
            refine lv_goto (tgt := 158) hx hb dX11_isAhead_154 (by decide) ?_
            rw [← Option.some.inj hr]
            exact xzret hx hb hr0 hlocks hW adR_rf (by decide) dX11_isAhead_158
        · have hr := br_n c1 hr
          refine lv_aload_n hx hb dX11_isAhead_125 rfl (lv_at hl 2 rfl) ?_
          refine lv_iload_n hx hb dX11_isAhead_126 rfl (lv_at hl 3 rfl) ?_
          refine lv_iconst (v := (2 : Int32)) hx hb dX11_isAhead_127 (by decide) ?_
          obtain ⟨r_13, hc128, hr⟩ := ob1_e hr
          refine xk_i (va_runV (As := [.int x1, .int (2 : Int32)]) (rest := []) ⟨hx, hb, hml, hown, hts⟩ (c_X11_of l D cA ad M x1 (2 : Int32) hc128) (cwV 2 hts gX11_isAhead_X11_of rfl rfl rfl (by decide +kernel) ⟨Nat.le_of_ble_eq_true rfl, Nat.le_of_ble_eq_true rfl⟩) (xpreV hK hW (k := 0) rfl (by decide) rfl) rfl rfl hl.1 rfl (lv_room (Nat.le_of_ble_eq_true rfl)) dX11_isAhead_128 ⟨Nat.le_of_ble_eq_true rfl, Nat.le_of_ble_eq_true rfl⟩) hW (fun H locs hW => ?_)
          refine lv_aload_n hx hb dX11_isAhead_131 rfl (lv_at hl 2 rfl) ?_
          refine lv_iload_n hx hb dX11_isAhead_132 rfl (lv_at hl 4 rfl) ?_
          refine lv_iconst (v := (2 : Int32)) hx hb dX11_isAhead_133 (by decide) ?_
          obtain ⟨r_14, hc134, hr⟩ := ob1_e hr
          refine xk_i (va_runV (As := [.int x2, .int (2 : Int32)]) (rest := [.int r_13]) ⟨hx, hb, hml, hown, hts⟩ (c_X11_of l D cA ad M x2 (2 : Int32) hc134) (cwV 2 hts gX11_isAhead_X11_of rfl rfl rfl (by decide +kernel) ⟨Nat.le_of_ble_eq_true rfl, Nat.le_of_ble_eq_true rfl⟩) (xpreV hK hW (k := 0) rfl (by decide) rfl) rfl rfl hl.1 rfl (lv_room (Nat.le_of_ble_eq_true rfl)) dX11_isAhead_134 ⟨Nat.le_of_ble_eq_true rfl, Nat.le_of_ble_eq_true rfl⟩) hW (fun H locs hW => ?_)
          refine lv_icmp_le (tgt := 144) hx hb dX11_isAhead_137 (by decide) (fun c1 => ?_) (fun c1 => ?_)
          · have hr := br_p c1 hr
            refine lv_iconst (v := (0 : Int32)) hx hb dX11_isAhead_144 (by decide) ?_
            refine lv_goto (tgt := 158) hx hb dX11_isAhead_145 (by decide) ?_
            rw [← Option.some.inj hr]
            exact xzret hx hb hr0 hlocks hW adR_rf (by decide) dX11_isAhead_158
          · have hr := br_n c1 hr
            refine lv_iconst (v := (1 : Int32)) hx hb dX11_isAhead_140 (by decide) ?_
            refine lv_goto (tgt := 158) hx hb dX11_isAhead_141 (by decide) ?_
            rw [← Option.some.inj hr]
            exact xzret hx hb hr0 hlocks hW adR_rf (by decide) dX11_isAhead_158
      · have hr := br_n c1 hr
        refine lv_iload_n hx hb dX11_isAhead_98 rfl (lv_at hl 1 rfl) ?_
        refine lv_iload hx hb dX11_isAhead_99 (lv_at hl 0 rfl) ?_
        refine lv_icmp_ge (tgt := 108) hx hb dX11_isAhead_101 (by decide) (fun c1 => ?_) (fun c1 => ?_)
        · have hr := br_p c1 hr
          refine lv_iconst (v := (0 : Int32)) hx hb dX11_isAhead_108 (by decide) ?_
          rw [← Option.some.inj hr]
          exact xzret hx hb hr0 hlocks hW adR_rf (by decide) dX11_isAhead_109
        · have hr := br_n c1 hr
          refine lv_iconst (v := (1 : Int32)) hx hb dX11_isAhead_104 (by decide) ?_
          refine lv_goto (tgt := 109) hx hb dX11_isAhead_105 (by decide) ?_
          rw [← Option.some.inj hr]
          exact xzret hx hb hr0 hlocks hW adR_rf (by decide) dX11_isAhead_109
    · have hr := br_n c1 hr
      refine lv_aload_n hx hb dX11_isAhead_36 rfl (lv_at hl 0 rfl) ?_
      refine lv_iload_n hx hb dX11_isAhead_37 rfl (lv_at hl 1 rfl) ?_
      refine lv_bipush (v := (10 : Int32)) hx hb dX11_isAhead_38 (by decide) ?_
      obtain ⟨r_15, hc40, hr⟩ := ob1_e hr
      refine xk_i (va_runV (As := [.int x1, .int (10 : Int32)]) (rest := []) ⟨hx, hb, hml, hown, hts⟩ (c_X11_of l D cA ad M x1 (10 : Int32) hc40) (cwV 2 hts gX11_isAhead_X11_of rfl rfl rfl (by decide +kernel) ⟨Nat.le_of_ble_eq_true rfl, Nat.le_of_ble_eq_true rfl⟩) (xpreV hK hW (k := 0) rfl (by decide) rfl) rfl rfl hl.1 rfl (lv_room (Nat.le_of_ble_eq_true rfl)) dX11_isAhead_40 ⟨Nat.le_of_ble_eq_true rfl, Nat.le_of_ble_eq_true rfl⟩) hW (fun H locs hW => ?_)
      refine lv_aload_n hx hb dX11_isAhead_43 rfl (lv_at hl 0 rfl) ?_
      refine lv_iload_n hx hb dX11_isAhead_44 rfl (lv_at hl 2 rfl) ?_
      refine lv_bipush (v := (10 : Int32)) hx hb dX11_isAhead_45 (by decide) ?_
      obtain ⟨r_16, hc47, hr⟩ := ob1_e hr
      refine xk_i (va_runV (As := [.int x2, .int (10 : Int32)]) (rest := [.int r_15]) ⟨hx, hb, hml, hown, hts⟩ (c_X11_of l D cA ad M x2 (10 : Int32) hc47) (cwV 2 hts gX11_isAhead_X11_of rfl rfl rfl (by decide +kernel) ⟨Nat.le_of_ble_eq_true rfl, Nat.le_of_ble_eq_true rfl⟩) (xpreV hK hW (k := 0) rfl (by decide) rfl) rfl rfl hl.1 rfl (lv_room (Nat.le_of_ble_eq_true rfl)) dX11_isAhead_47 ⟨Nat.le_of_ble_eq_true rfl, Nat.le_of_ble_eq_true rfl⟩) hW (fun H locs hW => ?_)
      refine lv_icmp_ge (tgt := 57) hx hb dX11_isAhead_50 (by decide) (fun c1 => ?_) (fun c1 => ?_)
      · have hr := br_p c1 hr
        refine lv_iconst (v := (0 : Int32)) hx hb dX11_isAhead_57 (by decide) ?_
        rw [← Option.some.inj hr]
        exact xzret hx hb hr0 hlocks hW adR_rf (by decide) dX11_isAhead_58
      · have hr := br_n c1 hr
        refine lv_iconst (v := (1 : Int32)) hx hb dX11_isAhead_53 (by decide) ?_
        refine lv_goto (tgt := 58) hx hb dX11_isAhead_54 (by decide) ?_
        rw [← Option.some.inj hr]
        exact xzret hx hb hr0 hlocks hW adR_rf (by decide) dX11_isAhead_58
  · have hr := br_n c1 hr
    refine lv_aload_n hx hb dX11_isAhead_13 rfl (lv_at hl 0 rfl) ?_
    refine lv_iload_n hx hb dX11_isAhead_14 rfl (lv_at hl 2 rfl) ?_
    obtain ⟨r_17, hc15, hr⟩ := ob1_e hr
    refine xk_i (va_runV (As := [.int x2]) (rest := []) ⟨hx, hb, hml, hown, hts⟩ (c_X11_fails l D cA ad M x2 hc15) (cwV 1 hts gX11_isAhead_X11_fails rfl rfl rfl (by decide +kernel) ⟨Nat.le_of_ble_eq_true rfl, Nat.le_of_ble_eq_true rfl⟩) (xpreV hK hW (k := 0) rfl (by decide) rfl) rfl rfl hl.1 rfl (lv_room (Nat.le_of_ble_eq_true rfl)) dX11_isAhead_15 ⟨Nat.le_of_ble_eq_true rfl, Nat.le_of_ble_eq_true rfl⟩) hW (fun H locs hW => ?_)
    obtain ⟨hz18, hr⟩ := chk_e hr
    rw [← Option.some.inj hr]
    exact xzret hx hb hr0 hlocks hW adR_rf hz18 dX11_isAhead_18

set_option maxHeartbeats 4000000 in
set_option maxRecDepth 100000 in
theorem c_X11_trust (l : Launch) (D : va_G) (cA : Nat → ClassId) (ad : Nat → Nat) (M : Mm) (x1 : Int32) {r : Int32} (hr : f_X11_trust x1 M = some r) : Met l yX11_trust wsX11_trust ({ frames := 3, cells := 0, slots := 0, locals := 67 }) (PcX D false cA ad M [.ref (ad 0), .int x1]) (QiX false D false cA ad r M) 0 0 (AX false ad) := by
  refine Met.ofW (cc := cX11_trust) (maxL := 5) (ret := (some .int)) (by decide) rfl ?_
  intro p e s m args below meth c s₁ B hml hv
  obtain ⟨hav, hP0, hK⟩ := hv
  have hx := B.exec
  have hb := B.bytes
  have hr0 := B.returns
  have hts := atoms_spec (ws := wsX11_trust) B.pre
  have hown : s.vm.findClass RX11 = some m.cls := findClass_of_methodNamed B.named
  have hlocks := B.notSynchronized
  have hW := xstart hP0
  have hi11 : ∀ w ∈ wsX110, w ∈ wsX11_trust := fun w h => List.mem_cons_of_mem _ (List.mem_append_right _ h)
  have hl := lv_entry ([.ref (ad 0), .int x1]) (n := 5) (Nat.le_of_ble_eq_true rfl)
  have hef := lg_entry_eq m ([.ref (ad 0), .int x1]) 5
  rw [← hav] at hef
  rw [hef]
  clear hef
  generalize (lg_sl ([.ref (ad 0), .int x1]) ++ List.replicate (5 - (lg_sl ([.ref (ad 0), .int x1])).length) Slot.unset).toArray = ls at hl ⊢
  have hl : lv_has ls 5 [(0, .ref (ad 0)), (1, .int x1)] := hl
  clear hP0
  unfold f_X11_trust at hr
  refine lv_iload_n hx hb dX11_trust_0 rfl (lv_at hl 1 rfl) ?_
  refine lv_if_ge (tgt := 7) hx hb dX11_trust_1 (by decide) (fun c1 => ?_) (fun c1 => ?_)
  · have hr := br_p c1 hr
    refine lv_iconst (v := (0 : Int32)) hx hb dX11_trust_7 (by decide) ?_
    refine lv_istore_n (lv' := [(2, .int (0 : Int32)), (0, .ref (ad 0)), (1, .int x1)]) hx hb dX11_trust_8 rfl hl (by decide) rfl (fun ls hl => ?_)
    have hL9_1 : ∀ (n : Nat) (x2_1 : Int32) (H : Heap) (locs : List Loc) (ls : Array Slot), Xw D false cA ad M (AX false ad) s.heap H locs → lv_has ls 5 [(0, .ref (ad 0)), (1, .int x1), (2, .int x2_1)] → f_X11_trust_L9 M x1 n x2_1 = some r → W p l e (headSpec wsX11_trust { frames := 3, cells := 0, slots := 0, locals := 67 }).room s m args below meth c H locs 0 0 (MQ below (QiX false D false cA ad r M) args s 0 0 (AX false ad)) (F0 m 9 ls []) := by
      intro n
      induction n with
      | zero =>
        intro x2_1 H locs ls hW hl hr
        exact absurd hr (by simp [f_X11_trust_L9])
      | succ n ih =>
        intro x2_1 H locs ls hW hl hr
        rw [f_X11_trust_L9] at hr
        refine lv_iload_n hx hb dX11_trust_9 rfl (lv_at hl 2 rfl) ?_
        refine lv_aload_n hx hb dX11_trust_10 rfl (lv_at hl 0 rfl) ?_
        refine g11_0 hx hb hts hi11 hown hK hW (k := 0) rfl (hts _ (wm 2 rfl)) dX11_trust_11 ?_
        refine lv_bipush (v := (64 : Int32)) hx hb dX11_trust_14 (by decide) ?_
        refine xiald hx hb hK hW (k := 1) (t := 24) rfl (by decide) (by decide) rfl (n := 159) (by decide) (jx := 64) (by decide) dX11_trust_16 ?_
        refine lv_icmp_ge (tgt := 80) hx hb dX11_trust_17 (by decide) (fun c1 => ?_) (fun c1 => ?_)
        · have hr := br_p c1 hr
          refine lv_ldc (v := (-2000000005 : Int32)) hx hb hown (hts _ (wm 3 rfl)) dX11_trust_80 ?_
          rw [← Option.some.inj hr]
          exact xiret hx hb hr0 hlocks hW adR_rf dX11_trust_82
        · have hr := br_n c1 hr
          refine lv_iconst (v := (0 : Int32)) hx hb dX11_trust_20 (by decide) ?_
          refine lv_istore_n (lv' := [(3, .int (0 : Int32)), (0, .ref (ad 0)), (1, .int x1), (2, .int x2_1)]) hx hb dX11_trust_21 rfl hl (by decide) rfl (fun ls hl => ?_)
          refine lv_iconst (v := (0 : Int32)) hx hb dX11_trust_22 (by decide) ?_
          refine lv_istore (lv' := [(4, .int (0 : Int32)), (3, .int (0 : Int32)), (0, .ref (ad 0)), (1, .int x1), (2, .int x2_1)]) hx hb dX11_trust_23 hl (by decide) rfl (fun ls hl => ?_)
          have hL25_2 : ∀ (n : Nat) (x3_2 : Int32) (x4_3 : Int32) (H : Heap) (locs : List Loc) (ls : Array Slot) (x3_4 : Int32), Xw D false cA ad M (AX false ad) s.heap H locs → lv_has ls 5 [(0, .ref (ad 0)), (1, .int x1), (2, .int x2_1), (3, .int x3_2), (4, .int x4_3)] → f_X11_trust_L25 M x2_1 n x3_2 x4_3 = some x3_4 → (∀ (H : Heap) (locs : List Loc) (ls : Array Slot), Xw D false cA ad M (AX false ad) s.heap H locs → lv_has ls 5 [(0, .ref (ad 0)), (1, .int x1), (2, .int x2_1), (3, .int x3_4)] → W p l e (headSpec wsX11_trust { frames := 3, cells := 0, slots := 0, locals := 67 }).room s m args below meth c H locs 0 0 (MQ below (QiX false D false cA ad r M) args s 0 0 (AX false ad)) (F0 m 67 ls [])) → W p l e (headSpec wsX11_trust { frames := 3, cells := 0, slots := 0, locals := 67 }).room s m args below meth c H locs 0 0 (MQ below (QiX false D false cA ad r M) args s 0 0 (AX false ad)) (F0 m 25 ls []) := by
            intro n
            induction n with
            | zero =>
              intro x3_2 x4_3 H locs ls x3_4 hW hl hr hk
              exact absurd hr (by simp [f_X11_trust_L25])
            | succ n ih =>
              intro x3_2 x4_3 H locs ls x3_4 hW hl hr hk
              rw [f_X11_trust_L25] at hr
              refine lv_iload hx hb dX11_trust_25 (lv_at hl 4 rfl) ?_
              refine lv_aload_n hx hb dX11_trust_27 rfl (lv_at hl 0 rfl) ?_
              refine g11_0 hx hb hts hi11 hown hK hW (k := 0) rfl (hts _ (wm 2 rfl)) dX11_trust_28 ?_
              refine lv_bipush (v := (64 : Int32)) hx hb dX11_trust_31 (by decide) ?_
              refine xiald hx hb hK hW (k := 1) (t := 24) rfl (by decide) (by decide) rfl (n := 159) (by decide) (jx := 64) (by decide) dX11_trust_33 ?_
              refine lv_icmp_ge (tgt := 67) hx hb dX11_trust_34 (by decide) (fun c1 => ?_) (fun c1 => ?_)
              · have hr := br_p c1 hr
                have e1 := Option.some.inj hr
                subst e1
                exact hk _ _ _ hW (lv_sub hl [0, 1, 2, 3] rfl)
              · have hr := br_n c1 hr
                refine lv_iload_n hx hb dX11_trust_37 rfl (lv_at hl 3 rfl) ?_
                refine lv_iload hx hb dX11_trust_38 (lv_at hl 4 rfl) ?_
                refine lv_iload_n hx hb dX11_trust_40 rfl (lv_at hl 2 rfl) ?_
                obtain ⟨y_5, hr, hr3⟩ := ob1_e hr
                have hj59_5 : ∀ (H : Heap) (locs : List Loc) (ls : Array Slot), Xw D false cA ad M (AX false ad) s.heap H locs → lv_has ls 5 [(0, .ref (ad 0)), (1, .int x1), (2, .int x2_1), (4, .int x4_3)] → W p l e (headSpec wsX11_trust { frames := 3, cells := 0, slots := 0, locals := 67 }).room s m args below meth c H locs 0 0 (MQ below (QiX false D false cA ad r M) args s 0 0 (AX false ad)) (F0 m 59 ls [.int y_5, .int x3_2]) := by
                  intro H locs ls hW hl
                  have hr := hr3
                  refine lv_iadd hx hb dX11_trust_59 ?_
                  obtain ⟨x3_7, ex3_7, hr⟩ := lt1_e hr
                  rw [← ex3_7]
                  refine lv_istore_n (lv' := [(3, .int x3_7), (0, .ref (ad 0)), (1, .int x1), (2, .int x2_1), (4, .int x4_3)]) hx hb dX11_trust_60 rfl hl (by decide) rfl (fun ls hl => ?_)
                  obtain ⟨x4_8, ex4_8, hr⟩ := lt1_e hr
                  refine lv_iinc (v := x4_8) (lv' := [(4, .int x4_8), (3, .int x3_7), (0, .ref (ad 0)), (1, .int x1), (2, .int x2_1)]) hx hb dX11_trust_61 hl (k := 4) rfl (by rw [ex4_8]; rfl) (by decide) rfl (fun ls hl => ?_)
                  refine lv_goto (tgt := 25) hx hb dX11_trust_64 (by decide) ?_
                  exact ih x3_7 x4_8 _ _ _ _ hW (lv_sub hl [2, 3, 4, 1, 0] rfl) hr hk
                clear hr3
                refine lv_icmp_eq (tgt := 58) hx hb dX11_trust_41 (by decide) (fun c1 => ?_) (fun c1 => ?_)
                · have hr := br_p c1 hr
                  refine lv_iconst (v := (0 : Int32)) hx hb dX11_trust_58 (by decide) ?_
                  have e1 := Option.some.inj hr
                  subst e1
                  exact hj59_5 _ _ _ hW (lv_sub hl [0, 1, 2, 4] rfl)
                · have hr := br_n c1 hr
                  refine lv_aload_n hx hb dX11_trust_44 rfl (lv_at hl 0 rfl) ?_
                  refine lv_iload hx hb dX11_trust_45 (lv_at hl 4 rfl) ?_
                  refine lv_iload_n hx hb dX11_trust_47 rfl (lv_at hl 2 rfl) ?_
                  obtain ⟨r_6, hc48, hr⟩ := ob1_e hr
                  refine xk_i (va_runV (As := [.int x4_3, .int x2_1]) (rest := [.int x3_2]) ⟨hx, hb, hml, hown, hts⟩ (c_X11_isAhead l D cA ad M x4_3 x2_1 hc48) (cwV 2 hts gX11_trust_X11_isAhead rfl rfl rfl (by decide +kernel) ⟨Nat.le_of_ble_eq_true rfl, Nat.le_of_ble_eq_true rfl⟩) (xpreV hK hW (k := 0) rfl (by decide) rfl) rfl rfl hl.1 rfl (lv_room (Nat.le_of_ble_eq_true rfl)) dX11_trust_48 ⟨Nat.le_of_ble_eq_true rfl, Nat.le_of_ble_eq_true rfl⟩) hW (fun H locs hW => ?_)
                  refine lv_if_eq (tgt := 58) hx hb dX11_trust_51 (by decide) (fun c1 => ?_) (fun c1 => ?_)
                  · have hr := br_p c1 hr
                    refine lv_iconst (v := (0 : Int32)) hx hb dX11_trust_58 (by decide) ?_
                    have e1 := Option.some.inj hr
                    subst e1
                    exact hj59_5 _ _ _ hW (lv_sub hl [0, 1, 2, 4] rfl)
                  · have hr := br_n c1 hr
                    refine lv_iconst (v := (1 : Int32)) hx hb dX11_trust_54 (by decide) ?_
                    refine lv_goto (tgt := 59) hx hb dX11_trust_55 (by decide) ?_
                    have e1 := Option.some.inj hr
                    subst e1
                    exact hj59_5 _ _ _ hW (lv_sub hl [0, 1, 2, 4] rfl)
          obtain ⟨x3_4, hr, hr3⟩ := ob1_e hr
          refine hL25_2 1000 (0 : Int32) (0 : Int32) _ _ _ x3_4 hW (lv_sub hl [2, 3, 4, 1, 0] rfl) hr (fun H locs ls hW hl => ?_)
          clear hr
          have hr := hr3
          refine lv_iload_n hx hb dX11_trust_67 rfl (lv_at hl 3 rfl) ?_
          refine lv_iload_n hx hb dX11_trust_68 rfl (lv_at hl 1 rfl) ?_
          refine lv_icmp_ne (tgt := 74) hx hb dX11_trust_69 (by decide) (fun c1 => ?_) (fun c1 => ?_)
          · have hr := br_n c1 hr
            obtain ⟨x2_9, ex2_9, hr⟩ := lt1_e hr
            refine lv_iinc (v := x2_9) (lv' := [(2, .int x2_9), (0, .ref (ad 0)), (1, .int x1), (3, .int x3_4)]) hx hb dX11_trust_74 hl (k := 2) rfl (by rw [ex2_9]; rfl) (by decide) rfl (fun ls hl => ?_)
            refine lv_goto (tgt := 9) hx hb dX11_trust_77 (by decide) ?_
            exact ih x2_9 _ _ _ hW (lv_sub hl [1, 2, 0] rfl) hr
          · have hr := br_p c1 hr
            refine lv_iload_n hx hb dX11_trust_72 rfl (lv_at hl 2 rfl) ?_
            rw [← Option.some.inj hr]
            exact xiret hx hb hr0 hlocks hW adR_rf dX11_trust_73
    exact hL9_1 1000 (0 : Int32) _ _ _ hW (lv_sub hl [1, 2, 0] rfl) hr
  · have hr := br_n c1 hr
    refine lv_ldc (v := (-2000000002 : Int32)) hx hb hown (hts _ (wm 1 rfl)) dX11_trust_4 ?_
    rw [← Option.some.inj hr]
    exact xiret hx hb hr0 hlocks hW adR_rf dX11_trust_6

set_option maxHeartbeats 4000000 in
set_option maxRecDepth 100000 in
theorem c_X11_failing (l : Launch) (D : va_G) (cA : Nat → ClassId) (ad : Nat → Nat) (M : Mm) {r : Int32} (hr : f_X11_failing M = some r) : Met l yX11_failing wsX11_failing ({ frames := 2, cells := 0, slots := 0, locals := 43 }) (PcX D false cA ad M [.ref (ad 0)]) (QiX false D false cA ad r M) 0 0 (AX false ad) := by
  refine Met.ofW (cc := cX11_failing) (maxL := 3) (ret := (some .int)) (by decide) rfl ?_
  intro p e s m args below meth c s₁ B hml hv
  obtain ⟨hav, hP0, hK⟩ := hv
  have hx := B.exec
  have hb := B.bytes
  have hr0 := B.returns
  have hts := atoms_spec (ws := wsX11_failing) B.pre
  have hown : s.vm.findClass RX11 = some m.cls := findClass_of_methodNamed B.named
  have hlocks := B.notSynchronized
  have hW := xstart hP0
  have hi11 : ∀ w ∈ wsX110, w ∈ wsX11_failing := fun w h => List.mem_cons_of_mem _ (List.mem_append_right _ h)
  have hl := lv_entry ([.ref (ad 0)]) (n := 3) (Nat.le_of_ble_eq_true rfl)
  have hef := lg_entry_eq m ([.ref (ad 0)]) 3
  rw [← hav] at hef
  rw [hef]
  clear hef
  generalize (lg_sl ([.ref (ad 0)]) ++ List.replicate (3 - (lg_sl ([.ref (ad 0)])).length) Slot.unset).toArray = ls at hl ⊢
  have hl : lv_has ls 3 [(0, .ref (ad 0))] := hl
  clear hP0
  unfold f_X11_failing at hr
  refine lv_iconst (v := (0 : Int32)) hx hb dX11_failing_0 (by decide) ?_
  refine lv_istore_n (lv' := [(1, .int (0 : Int32)), (0, .ref (ad 0))]) hx hb dX11_failing_1 rfl hl (by decide) rfl (fun ls hl => ?_)
  refine lv_iconst (v := (0 : Int32)) hx hb dX11_failing_2 (by decide) ?_
  refine lv_istore_n (lv' := [(2, .int (0 : Int32)), (1, .int (0 : Int32)), (0, .ref (ad 0))]) hx hb dX11_failing_3 rfl hl (by decide) rfl (fun ls hl => ?_)
  have hL4_1 : ∀ (n : Nat) (x1_1 : Int32) (x2_2 : Int32) (H : Heap) (locs : List Loc) (ls : Array Slot) (x1_3 : Int32), Xw D false cA ad M (AX false ad) s.heap H locs → lv_has ls 3 [(0, .ref (ad 0)), (1, .int x1_1), (2, .int x2_2)] → f_X11_failing_L4 M n x1_1 x2_2 = some x1_3 → (∀ (H : Heap) (locs : List Loc) (ls : Array Slot), Xw D false cA ad M (AX false ad) s.heap H locs → lv_has ls 3 [(1, .int x1_3)] → W p l e (headSpec wsX11_failing { frames := 2, cells := 0, slots := 0, locals := 43 }).room s m args below meth c H locs 0 0 (MQ below (QiX false D false cA ad r M) args s 0 0 (AX false ad)) (F0 m 37 ls [])) → W p l e (headSpec wsX11_failing { frames := 2, cells := 0, slots := 0, locals := 43 }).room s m args below meth c H locs 0 0 (MQ below (QiX false D false cA ad r M) args s 0 0 (AX false ad)) (F0 m 4 ls []) := by
    intro n
    induction n with
    | zero =>
      intro x1_1 x2_2 H locs ls x1_3 hW hl hr hk
      exact absurd hr (by simp [f_X11_failing_L4])
    | succ n ih =>
      intro x1_1 x2_2 H locs ls x1_3 hW hl hr hk
      rw [f_X11_failing_L4] at hr
      refine lv_iload_n hx hb dX11_failing_4 rfl (lv_at hl 2 rfl) ?_
      refine lv_aload_n hx hb dX11_failing_5 rfl (lv_at hl 0 rfl) ?_
      refine g11_0 hx hb hts hi11 hown hK hW (k := 0) rfl (hts _ (wm 1 rfl)) dX11_failing_6 ?_
      refine lv_bipush (v := (64 : Int32)) hx hb dX11_failing_9 (by decide) ?_
      refine xiald hx hb hK hW (k := 1) (t := 24) rfl (by decide) (by decide) rfl (n := 159) (by decide) (jx := 64) (by decide) dX11_failing_11 ?_
      refine lv_icmp_ge (tgt := 37) hx hb dX11_failing_12 (by decide) (fun c1 => ?_) (fun c1 => ?_)
      · have hr := br_p c1 hr
        have e1 := Option.some.inj hr
        subst e1
        exact hk _ _ _ hW (lv_sub hl [1] rfl)
      · have hr := br_n c1 hr
        refine lv_iload_n hx hb dX11_failing_15 rfl (lv_at hl 1 rfl) ?_
        refine lv_aload_n hx hb dX11_failing_16 rfl (lv_at hl 0 rfl) ?_
        refine lv_iload_n hx hb dX11_failing_17 rfl (lv_at hl 2 rfl) ?_
        obtain ⟨r_4, hc18, hr⟩ := ob1_e hr
        refine xk_i (va_runV (As := [.int x2_2]) (rest := [.int x1_1]) ⟨hx, hb, hml, hown, hts⟩ (c_X11_fails l D cA ad M x2_2 hc18) (cwV 1 hts gX11_failing_X11_fails rfl rfl rfl (by decide +kernel) ⟨Nat.le_of_ble_eq_true rfl, Nat.le_of_ble_eq_true rfl⟩) (xpreV hK hW (k := 0) rfl (by decide) rfl) rfl rfl hl.1 rfl (lv_room (Nat.le_of_ble_eq_true rfl)) dX11_failing_18 ⟨Nat.le_of_ble_eq_true rfl, Nat.le_of_ble_eq_true rfl⟩) hW (fun H locs hW => ?_)
        obtain ⟨y_5, hr, hr3⟩ := ob1_e hr
        have hj29_5 : ∀ (H : Heap) (locs : List Loc) (ls : Array Slot), Xw D false cA ad M (AX false ad) s.heap H locs → lv_has ls 3 [(0, .ref (ad 0)), (2, .int x2_2)] → W p l e (headSpec wsX11_failing { frames := 2, cells := 0, slots := 0, locals := 43 }).room s m args below meth c H locs 0 0 (MQ below (QiX false D false cA ad r M) args s 0 0 (AX false ad)) (F0 m 29 ls [.int y_5, .int x1_1]) := by
          intro H locs ls hW hl
          have hr := hr3
          refine lv_iadd hx hb dX11_failing_29 ?_
          obtain ⟨x1_6, ex1_6, hr⟩ := lt1_e hr
          rw [← ex1_6]
          refine lv_istore_n (lv' := [(1, .int x1_6), (0, .ref (ad 0)), (2, .int x2_2)]) hx hb dX11_failing_30 rfl hl (by decide) rfl (fun ls hl => ?_)
          obtain ⟨x2_7, ex2_7, hr⟩ := lt1_e hr
          refine lv_iinc (v := x2_7) (lv' := [(2, .int x2_7), (1, .int x1_6), (0, .ref (ad 0))]) hx hb dX11_failing_31 hl (k := 2) rfl (by rw [ex2_7]; rfl) (by decide) rfl (fun ls hl => ?_)
          refine lv_goto (tgt := 4) hx hb dX11_failing_34 (by decide) ?_
          exact ih x1_6 x2_7 _ _ _ _ hW (lv_sub hl [2, 1, 0] rfl) hr hk
        clear hr3
        refine lv_if_eq (tgt := 28) hx hb dX11_failing_21 (by decide) (fun c1 => ?_) (fun c1 => ?_)
        · have hr := br_p c1 hr
          refine lv_iconst (v := (0 : Int32)) hx hb dX11_failing_28 (by decide) ?_
          have e1 := Option.some.inj hr
          subst e1
          exact hj29_5 _ _ _ hW (lv_sub hl [0, 2] rfl)
        · have hr := br_n c1 hr
          refine lv_iconst (v := (1 : Int32)) hx hb dX11_failing_24 (by decide) ?_
          refine lv_goto (tgt := 29) hx hb dX11_failing_25 (by decide) ?_
          have e1 := Option.some.inj hr
          subst e1
          exact hj29_5 _ _ _ hW (lv_sub hl [0, 2] rfl)
  obtain ⟨x1_3, hr, hr3⟩ := ob1_e hr
  refine hL4_1 1000 (0 : Int32) (0 : Int32) _ _ _ x1_3 hW (lv_sub hl [2, 1, 0] rfl) hr (fun H locs ls hW hl => ?_)
  clear hr
  have hr := hr3
  refine lv_iload_n hx hb dX11_failing_37 rfl (lv_at hl 0 rfl) ?_
  rw [← Option.some.inj hr]
  exact xiret hx hb hr0 hlocks hW adR_rf dX11_failing_38

set_option maxHeartbeats 4000000 in
set_option maxRecDepth 100000 in
theorem c_X11_total (l : Launch) (D : va_G) (cA : Nat → ClassId) (ad : Nat → Nat) (M : Mm) (x1 : Int32) {r : Int32} (hr : f_X11_total x1 M = some r) : Met l yX11_total wsX11_total ({ frames := 3, cells := 0, slots := 0, locals := 65 }) (PcX D false cA ad M [.ref (ad 0), .int x1]) (QiX false D false cA ad r M) 0 0 (AX false ad) := by
  refine Met.ofW (cc := cX11_total) (maxL := 2) (ret := (some .int)) (by decide) rfl ?_
  intro p e s m args below meth c s₁ B hml hv
  obtain ⟨hav, hP0, hK⟩ := hv
  have hx := B.exec
  have hb := B.bytes
  have hr0 := B.returns
  have hts := atoms_spec (ws := wsX11_total) B.pre
  have hown : s.vm.findClass RX11 = some m.cls := findClass_of_methodNamed B.named
  have hlocks := B.notSynchronized
  have hW := xstart hP0
  have hi11 : ∀ w ∈ wsX110, w ∈ wsX11_total := fun w h => List.mem_cons_of_mem _ (List.mem_append_right _ h)
  have hl := lv_entry ([.ref (ad 0), .int x1]) (n := 2) (Nat.le_of_ble_eq_true rfl)
  have hef := lg_entry_eq m ([.ref (ad 0), .int x1]) 2
  rw [← hav] at hef
  rw [hef]
  clear hef
  generalize (lg_sl ([.ref (ad 0), .int x1]) ++ List.replicate (2 - (lg_sl ([.ref (ad 0), .int x1])).length) Slot.unset).toArray = ls at hl ⊢
  have hl : lv_has ls 2 [(0, .ref (ad 0)), (1, .int x1)] := hl
  clear hP0
  unfold f_X11_total at hr
  refine lv_iload_n hx hb dX11_total_0 rfl (lv_at hl 1 rfl) ?_
  by_cases c1_0 : x1 = (0 : Int32)
  · have hr := br_p c1_0 hr
    refine lv_tableIn (tgt := 56) hx hb dX11_total_1 (by rw [c1_0]; decide) (by rw [c1_0]; decide) (off := 55) (by rw [c1_0]; decide) (by decide) ?_
    refine lv_aload_n hx hb dX11_total_56 rfl (lv_at hl 0 rfl) ?_
    refine g11_0 hx hb hts hi11 hown hK hW (k := 0) rfl (hts _ (wm 1 rfl)) dX11_total_57 ?_
    refine lv_bipush (v := (64 : Int32)) hx hb dX11_total_60 (by decide) ?_
    refine xiald hx hb hK hW (k := 1) (t := 24) rfl (by decide) (by decide) rfl (n := 159) (by decide) (jx := 64) (by decide) dX11_total_62 ?_
    rw [← Option.some.inj hr]
    exact xiret hx hb hr0 hlocks hW adR_rf dX11_total_63
  · have hr := br_n c1_0 hr
    by_cases c1_1 : x1 = (1 : Int32)
    · have hr := br_p c1_1 hr
      refine lv_tableIn (tgt := 64) hx hb dX11_total_1 (by rw [c1_1]; decide) (by rw [c1_1]; decide) (off := 63) (by rw [c1_1]; decide) (by decide) ?_
      refine lv_aload_n hx hb dX11_total_64 rfl (lv_at hl 0 rfl) ?_
      refine g11_0 hx hb hts hi11 hown hK hW (k := 0) rfl (hts _ (wm 1 rfl)) dX11_total_65 ?_
      refine lv_bipush (v := (65 : Int32)) hx hb dX11_total_68 (by decide) ?_
      refine xiald hx hb hK hW (k := 1) (t := 24) rfl (by decide) (by decide) rfl (n := 159) (by decide) (jx := 65) (by decide) dX11_total_70 ?_
      rw [← Option.some.inj hr]
      exact xiret hx hb hr0 hlocks hW adR_rf dX11_total_71
    · have hr := br_n c1_1 hr
      by_cases c1_2 : x1 = (2 : Int32)
      · have hr := br_p c1_2 hr
        refine lv_tableIn (tgt := 72) hx hb dX11_total_1 (by rw [c1_2]; decide) (by rw [c1_2]; decide) (off := 71) (by rw [c1_2]; decide) (by decide) ?_
        refine lv_aload_n hx hb dX11_total_72 rfl (lv_at hl 0 rfl) ?_
        obtain ⟨r_1, hc73, hr⟩ := ob1_e hr
        refine xk_i (va_runV (As := []) (rest := []) ⟨hx, hb, hml, hown, hts⟩ (c_X11_shots l D cA ad M hc73) (cwV 0 hts gX11_total_X11_shots rfl rfl rfl (by decide +kernel) ⟨Nat.le_of_ble_eq_true rfl, Nat.le_of_ble_eq_true rfl⟩) (xpreV hK hW (k := 0) rfl (by decide) rfl) rfl rfl hl.1 rfl (lv_room (Nat.le_of_ble_eq_true rfl)) dX11_total_73 ⟨Nat.le_of_ble_eq_true rfl, Nat.le_of_ble_eq_true rfl⟩) hW (fun H locs hW => ?_)
        rw [← Option.some.inj hr]
        exact xiret hx hb hr0 hlocks hW adR_rf dX11_total_76
      · have hr := br_n c1_2 hr
        by_cases c1_3 : x1 = (3 : Int32)
        · have hr := br_p c1_3 hr
          refine lv_tableIn (tgt := 77) hx hb dX11_total_1 (by rw [c1_3]; decide) (by rw [c1_3]; decide) (off := 76) (by rw [c1_3]; decide) (by decide) ?_
          refine lv_aload_n hx hb dX11_total_77 rfl (lv_at hl 0 rfl) ?_
          refine g11_0 hx hb hts hi11 hown hK hW (k := 0) rfl (hts _ (wm 1 rfl)) dX11_total_78 ?_
          refine lv_bipush (v := (84 : Int32)) hx hb dX11_total_81 (by decide) ?_
          refine lv_iload_n hx hb dX11_total_83 rfl (lv_at hl 1 rfl) ?_
          refine lv_iadd hx hb dX11_total_84 ?_
          refine lv_iconst (v := (3 : Int32)) hx hb dX11_total_85 (by decide) ?_
          refine lv_isub hx hb dX11_total_86 ?_
          obtain ⟨hn87, hr⟩ := chk_e hr
          refine xiald hx hb hK hW (k := 1) (t := 24) rfl (by decide) (by decide) rfl (n := 159) hn87 (jx := (ix (((84 : Int32) + x1) - (3 : Int32)))) rfl dX11_total_87 ?_
          rw [← Option.some.inj hr]
          exact xiret hx hb hr0 hlocks hW adR_rf dX11_total_88
        · have hr := br_n c1_3 hr
          by_cases c1_4 : x1 = (4 : Int32)
          · have hr := br_p c1_4 hr
            refine lv_tableIn (tgt := 77) hx hb dX11_total_1 (by rw [c1_4]; decide) (by rw [c1_4]; decide) (off := 76) (by rw [c1_4]; decide) (by decide) ?_
            refine lv_aload_n hx hb dX11_total_77 rfl (lv_at hl 0 rfl) ?_
            refine g11_0 hx hb hts hi11 hown hK hW (k := 0) rfl (hts _ (wm 1 rfl)) dX11_total_78 ?_
            refine lv_bipush (v := (84 : Int32)) hx hb dX11_total_81 (by decide) ?_
            refine lv_iload_n hx hb dX11_total_83 rfl (lv_at hl 1 rfl) ?_
            refine lv_iadd hx hb dX11_total_84 ?_
            refine lv_iconst (v := (3 : Int32)) hx hb dX11_total_85 (by decide) ?_
            refine lv_isub hx hb dX11_total_86 ?_
            obtain ⟨hn87, hr⟩ := chk_e hr
            refine xiald hx hb hK hW (k := 1) (t := 24) rfl (by decide) (by decide) rfl (n := 159) hn87 (jx := (ix (((84 : Int32) + x1) - (3 : Int32)))) rfl dX11_total_87 ?_
            rw [← Option.some.inj hr]
            exact xiret hx hb hr0 hlocks hW adR_rf dX11_total_88
          · have hr := br_n c1_4 hr
            by_cases c1_5 : x1 = (5 : Int32)
            · have hr := br_p c1_5 hr
              refine lv_tableIn (tgt := 77) hx hb dX11_total_1 (by rw [c1_5]; decide) (by rw [c1_5]; decide) (off := 76) (by rw [c1_5]; decide) (by decide) ?_
              refine lv_aload_n hx hb dX11_total_77 rfl (lv_at hl 0 rfl) ?_
              refine g11_0 hx hb hts hi11 hown hK hW (k := 0) rfl (hts _ (wm 1 rfl)) dX11_total_78 ?_
              refine lv_bipush (v := (84 : Int32)) hx hb dX11_total_81 (by decide) ?_
              refine lv_iload_n hx hb dX11_total_83 rfl (lv_at hl 1 rfl) ?_
              refine lv_iadd hx hb dX11_total_84 ?_
              refine lv_iconst (v := (3 : Int32)) hx hb dX11_total_85 (by decide) ?_
              refine lv_isub hx hb dX11_total_86 ?_
              obtain ⟨hn87, hr⟩ := chk_e hr
              refine xiald hx hb hK hW (k := 1) (t := 24) rfl (by decide) (by decide) rfl (n := 159) hn87 (jx := (ix (((84 : Int32) + x1) - (3 : Int32)))) rfl dX11_total_87 ?_
              rw [← Option.some.inj hr]
              exact xiret hx hb hr0 hlocks hW adR_rf dX11_total_88
            · have hr := br_n c1_5 hr
              by_cases c1_6 : x1 = (6 : Int32)
              · have hr := br_p c1_6 hr
                refine lv_tableIn (tgt := 89) hx hb dX11_total_1 (by rw [c1_6]; decide) (by rw [c1_6]; decide) (off := 88) (by rw [c1_6]; decide) (by decide) ?_
                refine lv_aload_n hx hb dX11_total_89 rfl (lv_at hl 0 rfl) ?_
                refine g11_0 hx hb hts hi11 hown hK hW (k := 0) rfl (hts _ (wm 1 rfl)) dX11_total_90 ?_
                refine lv_bipush (v := (83 : Int32)) hx hb dX11_total_93 (by decide) ?_
                refine xiald hx hb hK hW (k := 1) (t := 24) rfl (by decide) (by decide) rfl (n := 159) (by decide) (jx := 83) (by decide) dX11_total_95 ?_
                rw [← Option.some.inj hr]
                exact xiret hx hb hr0 hlocks hW adR_rf dX11_total_96
              · have hr := br_n c1_6 hr
                by_cases c1_7 : x1 = (7 : Int32)
                · have hr := br_p c1_7 hr
                  refine lv_tableIn (tgt := 97) hx hb dX11_total_1 (by rw [c1_7]; decide) (by rw [c1_7]; decide) (off := 96) (by rw [c1_7]; decide) (by decide) ?_
                  refine lv_aload_n hx hb dX11_total_97 rfl (lv_at hl 0 rfl) ?_
                  obtain ⟨r_2, hc98, hr⟩ := ob1_e hr
                  refine xk_i (va_runV (As := []) (rest := []) ⟨hx, hb, hml, hown, hts⟩ (c_X11_failing l D cA ad M hc98) (cwV 0 hts gX11_total_X11_failing rfl rfl rfl (by decide +kernel) ⟨Nat.le_of_ble_eq_true rfl, Nat.le_of_ble_eq_true rfl⟩) (xpreV hK hW (k := 0) rfl (by decide) rfl) rfl rfl hl.1 rfl (lv_room (Nat.le_of_ble_eq_true rfl)) dX11_total_98 ⟨Nat.le_of_ble_eq_true rfl, Nat.le_of_ble_eq_true rfl⟩) hW (fun H locs hW => ?_)
                  rw [← Option.some.inj hr]
                  exact xiret hx hb hr0 hlocks hW adR_rf dX11_total_101
                · have hr := br_n c1_7 hr
                  by_cases c1_8 : x1 = (8 : Int32)
                  · have hr := br_p c1_8 hr
                    refine lv_tableIn (tgt := 102) hx hb dX11_total_1 (by rw [c1_8]; decide) (by rw [c1_8]; decide) (off := 101) (by rw [c1_8]; decide) (by decide) ?_
                    refine lv_aload_n hx hb dX11_total_102 rfl (lv_at hl 0 rfl) ?_
                    refine g11_4 hx hb hts hi11 hown hK hW (k := 0) rfl (hts _ (wm 2 rfl)) dX11_total_103 ?_
                    rw [← Option.some.inj hr]
                    exact xiret hx hb hr0 hlocks hW adR_rf dX11_total_106
                  · have hr := br_n c1_8 hr
                    by_cases c1_9 : x1 = (9 : Int32)
                    · have hr := br_p c1_9 hr
                      refine lv_tableIn (tgt := 107) hx hb dX11_total_1 (by rw [c1_9]; decide) (by rw [c1_9]; decide) (off := 106) (by rw [c1_9]; decide) (by decide) ?_
                      refine lv_aload_n hx hb dX11_total_107 rfl (lv_at hl 0 rfl) ?_
                      refine g11_9 hx hb hts hi11 hown hK hW (k := 0) rfl (hts _ (wm 3 rfl)) dX11_total_108 ?_
                      rw [← Option.some.inj hr]
                      exact xiret hx hb hr0 hlocks hW adR_rf dX11_total_111
                    · have hr := br_n c1_9 hr
                      have hsw : x1.toInt < 0 ∨ 9 < x1.toInt := by
                        have hsw0 := lv_neT c1_0 (a := 0) rfl
                        have hsw1 := lv_neT c1_1 (a := 1) rfl
                        have hsw2 := lv_neT c1_2 (a := 2) rfl
                        have hsw3 := lv_neT c1_3 (a := 3) rfl
                        have hsw4 := lv_neT c1_4 (a := 4) rfl
                        have hsw5 := lv_neT c1_5 (a := 5) rfl
                        have hsw6 := lv_neT c1_6 (a := 6) rfl
                        have hsw7 := lv_neT c1_7 (a := 7) rfl
                        have hsw8 := lv_neT c1_8 (a := 8) rfl
                        have hsw9 := lv_neT c1_9 (a := 9) rfl
                        omega
                      refine lv_tableOut (tgt := 112) hx hb dX11_total_1 hsw (by decide) ?_
                      refine lv_iload_n hx hb dX11_total_112 rfl (lv_at hl 1 rfl) ?_
                      refine lv_bipush (v := (10 : Int32)) hx hb dX11_total_113 (by decide) ?_
                      refine lv_bipush (v := (14 : Int32)) hx hb dX11_total_115 (by decide) ?_
                      obtain ⟨r_3, hc117, hr⟩ := ob1_e hr
                      refine xk_i (va_runS (As := [.int x1, .int (10 : Int32), .int (14 : Int32)]) (rest := []) ⟨hx, hb, hml, hown, hts⟩ (c_X11_in l D cA ad M x1 (10 : Int32) (14 : Int32) hc117) (va_cwS 3 hts gX11_total_X11_in rfl rfl rfl (by decide +kernel) ⟨Nat.le_of_ble_eq_true rfl, Nat.le_of_ble_eq_true rfl⟩) (xpreS hK hW) rfl rfl hl.1 rfl (lv_room (Nat.le_of_ble_eq_true rfl)) dX11_total_117 ⟨Nat.le_of_ble_eq_true rfl, Nat.le_of_ble_eq_true rfl⟩) hW (fun H locs hW => ?_)
                      refine lv_if_eq (tgt := 138) hx hb dX11_total_120 (by decide) (fun c1 => ?_) (fun c1 => ?_)
                      · have hr := br_p c1 hr
                        refine lv_ldc (v := (-2000000002 : Int32)) hx hb hown (hts _ (wm 4 rfl)) dX11_total_138 ?_
                        rw [← Option.some.inj hr]
                        exact xiret hx hb hr0 hlocks hW adR_rf dX11_total_140
                      · have hr := br_n c1 hr
                        refine lv_aload_n hx hb dX11_total_123 rfl (lv_at hl 0 rfl) ?_
                        refine g11_0 hx hb hts hi11 hown hK hW (k := 0) rfl (hts _ (wm 1 rfl)) dX11_total_124 ?_
                        refine lv_bipush (v := (78 : Int32)) hx hb dX11_total_127 (by decide) ?_
                        refine lv_iload_n hx hb dX11_total_129 rfl (lv_at hl 1 rfl) ?_
                        refine lv_iadd hx hb dX11_total_130 ?_
                        refine lv_bipush (v := (10 : Int32)) hx hb dX11_total_131 (by decide) ?_
                        refine lv_isub hx hb dX11_total_133 ?_
                        obtain ⟨hn134, hr⟩ := chk_e hr
                        refine xiald hx hb hK hW (k := 1) (t := 24) rfl (by decide) (by decide) rfl (n := 159) hn134 (jx := (ix (((78 : Int32) + x1) - (10 : Int32)))) rfl dX11_total_134 ?_
                        refine lv_goto (tgt := 140) hx hb dX11_total_135 (by decide) ?_
                        rw [← Option.some.inj hr]
                        exact xiret hx hb hr0 hlocks hW adR_rf dX11_total_140

set_option maxHeartbeats 4000000 in
set_option maxRecDepth 100000 in
theorem c_X11_velocity (l : Launch) (D : va_G) (cA : Nat → ClassId) (ad : Nat → Nat) (M : Mm) (x1 : Int32) (x2 : Int32) (x3 : Int32) {r : Int32} (hr : f_X11_velocity x1 x2 x3 M = some r) : Met l yX11_velocity wsX11_velocity ({ frames := 3, cells := 0, slots := 0, locals := 69 }) (PcX D false cA ad M [.ref (ad 0), .int x1, .int x2, .int x3]) (QiX false D false cA ad r M) 0 0 (AX false ad) := by
  refine Met.ofW (cc := cX11_velocity) (maxL := 5) (ret := (some .int)) (by decide) rfl ?_
  intro p e s m args below meth c s₁ B hml hv
  obtain ⟨hav, hP0, hK⟩ := hv
  have hx := B.exec
  have hb := B.bytes
  have hr0 := B.returns
  have hts := atoms_spec (ws := wsX11_velocity) B.pre
  have hown : s.vm.findClass RX11 = some m.cls := findClass_of_methodNamed B.named
  have hlocks := B.notSynchronized
  have hW := xstart hP0
  have hl := lv_entry ([.ref (ad 0), .int x1, .int x2, .int x3]) (n := 5) (Nat.le_of_ble_eq_true rfl)
  have hef := lg_entry_eq m ([.ref (ad 0), .int x1, .int x2, .int x3]) 5
  rw [← hav] at hef
  rw [hef]
  clear hef
  generalize (lg_sl ([.ref (ad 0), .int x1, .int x2, .int x3]) ++ List.replicate (5 - (lg_sl ([.ref (ad 0), .int x1, .int x2, .int x3])).length) Slot.unset).toArray = ls at hl ⊢
  have hl : lv_has ls 5 [(0, .ref (ad 0)), (1, .int x1), (2, .int x2), (3, .int x3)] := hl
  clear hP0
  unfold f_X11_velocity at hr
  refine lv_aload_n hx hb dX11_velocity_0 rfl (lv_at hl 0 rfl) ?_
  refine lv_iload_n hx hb dX11_velocity_1 rfl (lv_at hl 1 rfl) ?_
  refine lv_iload_n hx hb dX11_velocity_2 rfl (lv_at hl 2 rfl) ?_
  refine lv_iload_n hx hb dX11_velocity_3 rfl (lv_at hl 3 rfl) ?_
  refine lv_iconst (v := (0 : Int32)) hx hb dX11_velocity_4 (by decide) ?_
  obtain ⟨r_1, hc5, hr⟩ := ob1_e hr
  refine xk_i (va_runV (As := [.int x1, .int x2, .int x3, .int (0 : Int32)]) (rest := []) ⟨hx, hb, hml, hown, hts⟩ (c_X11_whyShot l D cA ad M x1 x2 x3 (0 : Int32) hc5) (cwV 4 hts gX11_velocity_X11_whyShot rfl rfl rfl (by decide +kernel) ⟨Nat.le_of_ble_eq_true rfl, Nat.le_of_ble_eq_true rfl⟩) (xpreV hK hW (k := 0) rfl (by decide) rfl) rfl rfl hl.1 rfl (lv_room (Nat.le_of_ble_eq_true rfl)) dX11_velocity_5 ⟨Nat.le_of_ble_eq_true rfl, Nat.le_of_ble_eq_true rfl⟩) hW (fun H locs hW => ?_)
  refine lv_istore (lv' := [(4, .int r_1), (0, .ref (ad 0)), (1, .int x1), (2, .int x2), (3, .int x3)]) hx hb dX11_velocity_8 hl (by decide) rfl (fun ls hl => ?_)
  refine lv_iload hx hb dX11_velocity_10 (lv_at hl 0 rfl) ?_
  refine lv_if_ge (tgt := 20) hx hb dX11_velocity_12 (by decide) (fun c1 => ?_) (fun c1 => ?_)
  · have hr := br_p c1 hr
    refine lv_aload_n hx hb dX11_velocity_20 rfl (lv_at hl 1 rfl) ?_
    refine lv_iload_n hx hb dX11_velocity_21 rfl (lv_at hl 2 rfl) ?_
    refine lv_iload_n hx hb dX11_velocity_22 rfl (lv_at hl 3 rfl) ?_
    refine lv_iload_n hx hb dX11_velocity_23 rfl (lv_at hl 4 rfl) ?_
    obtain ⟨r_2, hc24, hr⟩ := ob1_e hr
    refine xk_i (va_runV (As := [.int x1, .int x2, .int x3]) (rest := []) ⟨hx, hb, hml, hown, hts⟩ (c_X11_velocityOf l D cA ad M x1 x2 x3 hc24) (cwV 3 hts gX11_velocity_X11_velocityOf rfl rfl rfl (by decide +kernel) ⟨Nat.le_of_ble_eq_true rfl, Nat.le_of_ble_eq_true rfl⟩) (xpreV hK hW (k := 0) rfl (by decide) rfl) rfl rfl hl.1 rfl (lv_room (Nat.le_of_ble_eq_true rfl)) dX11_velocity_24 ⟨Nat.le_of_ble_eq_true rfl, Nat.le_of_ble_eq_true rfl⟩) hW (fun H locs hW => ?_)
    rw [← Option.some.inj hr]
    exact xiret hx hb hr0 hlocks hW adR_rf dX11_velocity_27
  · have hr := br_n c1 hr
    refine lv_iload hx hb dX11_velocity_15 (lv_at hl 0 rfl) ?_
    refine lv_goto (tgt := 27) hx hb dX11_velocity_17 (by decide) ?_
    rw [← Option.some.inj hr]
    exact xiret hx hb hr0 hlocks hW adR_rf dX11_velocity_27

set_option maxHeartbeats 4000000 in
set_option maxRecDepth 100000 in
theorem c_X11_ideal (l : Launch) (D : va_G) (cA : Nat → ClassId) (ad : Nat → Nat) (M : Mm) (x1 : Int32) (x2 : Int32) (x3 : Int32) (x4 : Int32) {r : Int32} (hr : f_X11_ideal x1 x2 x3 x4 M = some r) : Met l yX11_ideal wsX11_ideal ({ frames := 2, cells := 0, slots := 0, locals := 43 }) (PcX D false cA ad M [.ref (ad 0), .int x1, .int x2, .int x3, .int x4]) (QiX false D false cA ad r M) 0 0 (AX false ad) := by
  refine Met.ofW (cc := cX11_ideal) (maxL := 8) (ret := (some .int)) (by decide) rfl ?_
  intro p e s m args below meth c s₁ B hml hv
  obtain ⟨hav, hP0, hK⟩ := hv
  have hx := B.exec
  have hb := B.bytes
  have hr0 := B.returns
  have hts := atoms_spec (ws := wsX11_ideal) B.pre
  have hown : s.vm.findClass RX11 = some m.cls := findClass_of_methodNamed B.named
  have hlocks := B.notSynchronized
  have hW := xstart hP0
  have hl := lv_entry ([.ref (ad 0), .int x1, .int x2, .int x3, .int x4]) (n := 8) (Nat.le_of_ble_eq_true rfl)
  have hef := lg_entry_eq m ([.ref (ad 0), .int x1, .int x2, .int x3, .int x4]) 8
  rw [← hav] at hef
  rw [hef]
  clear hef
  generalize (lg_sl ([.ref (ad 0), .int x1, .int x2, .int x3, .int x4]) ++ List.replicate (8 - (lg_sl ([.ref (ad 0), .int x1, .int x2, .int x3, .int x4])).length) Slot.unset).toArray = ls at hl ⊢
  have hl : lv_has ls 8 [(0, .ref (ad 0)), (1, .int x1), (2, .int x2), (3, .int x3), (4, .int x4)] := hl
  clear hP0
  unfold f_X11_ideal at hr
  refine lv_aload_n hx hb dX11_ideal_0 rfl (lv_at hl 0 rfl) ?_
  refine lv_iload_n hx hb dX11_ideal_1 rfl (lv_at hl 1 rfl) ?_
  obtain ⟨r_1, hc2, hr⟩ := ob1_e hr
  refine xk_i (va_runV (As := [.int x1]) (rest := []) ⟨hx, hb, hml, hown, hts⟩ (c_X11_isPath l D cA ad M x1 hc2) (cwV 1 hts gX11_ideal_X11_isPath rfl rfl rfl (by decide +kernel) ⟨Nat.le_of_ble_eq_true rfl, Nat.le_of_ble_eq_true rfl⟩) (xpreV hK hW (k := 0) rfl (by decide) rfl) rfl rfl hl.1 rfl (lv_room (Nat.le_of_ble_eq_true rfl)) dX11_ideal_2 ⟨Nat.le_of_ble_eq_true rfl, Nat.le_of_ble_eq_true rfl⟩) hW (fun H locs hW => ?_)
  refine lv_if_ne (tgt := 11) hx hb dX11_ideal_5 (by decide) (fun c1 => ?_) (fun c1 => ?_)
  · have hr := br_n c1 hr
    refine lv_iload_n hx hb dX11_ideal_11 rfl (lv_at hl 2 rfl) ?_
    refine lv_sipush (v := (300 : Int32)) hx hb dX11_ideal_12 (by decide) ?_
    refine lv_sipush (v := (3000 : Int32)) hx hb dX11_ideal_15 (by decide) ?_
    obtain ⟨r_2, hc18, hr⟩ := ob1_e hr
    refine xk_i (va_runS (As := [.int x2, .int (300 : Int32), .int (3000 : Int32)]) (rest := []) ⟨hx, hb, hml, hown, hts⟩ (c_X11_in l D cA ad M x2 (300 : Int32) (3000 : Int32) hc18) (va_cwS 3 hts gX11_ideal_X11_in rfl rfl rfl (by decide +kernel) ⟨Nat.le_of_ble_eq_true rfl, Nat.le_of_ble_eq_true rfl⟩) (xpreS hK hW) rfl rfl hl.1 rfl (lv_room (Nat.le_of_ble_eq_true rfl)) dX11_ideal_18 ⟨Nat.le_of_ble_eq_true rfl, Nat.le_of_ble_eq_true rfl⟩) hW (fun H locs hW => ?_)
    refine lv_if_eq (tgt := 37) hx hb dX11_ideal_21 (by decide) (fun c1 => ?_) (fun c1 => ?_)
    · have hr := br_p c1 hr
      refine lv_ldc (v := (-2000000002 : Int32)) hx hb hown (hts _ (wm 2 rfl)) dX11_ideal_37 ?_
      rw [← Option.some.inj hr]
      exact xiret hx hb hr0 hlocks hW adR_rf dX11_ideal_39
    · have hr := br_n c1 hr
      refine lv_iload_n hx hb dX11_ideal_24 rfl (lv_at hl 3 rfl) ?_
      refine lv_sipush (v := (-20000 : Int32)) hx hb dX11_ideal_25 (by decide) ?_
      refine lv_sipush (v := (20000 : Int32)) hx hb dX11_ideal_28 (by decide) ?_
      obtain ⟨r_3, hc31, hr⟩ := ob1_e hr
      refine xk_i (va_runS (As := [.int x3, .int (-20000 : Int32), .int (20000 : Int32)]) (rest := []) ⟨hx, hb, hml, hown, hts⟩ (c_X11_in l D cA ad M x3 (-20000 : Int32) (20000 : Int32) hc31) (va_cwS 3 hts gX11_ideal_X11_in rfl rfl rfl (by decide +kernel) ⟨Nat.le_of_ble_eq_true rfl, Nat.le_of_ble_eq_true rfl⟩) (xpreS hK hW) rfl rfl hl.1 rfl (lv_room (Nat.le_of_ble_eq_true rfl)) dX11_ideal_31 ⟨Nat.le_of_ble_eq_true rfl, Nat.le_of_ble_eq_true rfl⟩) hW (fun H locs hW => ?_)
      refine lv_if_ne (tgt := 40) hx hb dX11_ideal_34 (by decide) (fun c1 => ?_) (fun c1 => ?_)
      · have hr := br_n c1 hr
        refine lv_iload_n hx hb dX11_ideal_40 rfl (lv_at hl 3 rfl) ?_
        refine lv_aload_n hx hb dX11_ideal_41 rfl (lv_at hl 0 rfl) ?_
        refine lv_iload_n hx hb dX11_ideal_42 rfl (lv_at hl 1 rfl) ?_
        refine lv_iconst (v := (1 : Int32)) hx hb dX11_ideal_43 (by decide) ?_
        obtain ⟨r_4, hc44, hr⟩ := ob1_e hr
        refine xk_i (va_runV (As := [.int x1, .int (1 : Int32)]) (rest := [.int x3]) ⟨hx, hb, hml, hown, hts⟩ (c_X11_of l D cA ad M x1 (1 : Int32) hc44) (cwV 2 hts gX11_ideal_X11_of rfl rfl rfl (by decide +kernel) ⟨Nat.le_of_ble_eq_true rfl, Nat.le_of_ble_eq_true rfl⟩) (xpreV hK hW (k := 0) rfl (by decide) rfl) rfl rfl hl.1 rfl (lv_room (Nat.le_of_ble_eq_true rfl)) dX11_ideal_44 ⟨Nat.le_of_ble_eq_true rfl, Nat.le_of_ble_eq_true rfl⟩) hW (fun H locs hW => ?_)
        refine lv_imul hx hb dX11_ideal_47 ?_
        refine lv_aload_n hx hb dX11_ideal_48 rfl (lv_at hl 0 rfl) ?_
        refine lv_iload_n hx hb dX11_ideal_49 rfl (lv_at hl 1 rfl) ?_
        refine lv_iconst (v := (0 : Int32)) hx hb dX11_ideal_50 (by decide) ?_
        obtain ⟨r_5, hc51, hr⟩ := ob1_e hr
        refine xk_i (va_runV (As := [.int x1, .int (0 : Int32)]) (rest := [.int (x3 * r_4)]) ⟨hx, hb, hml, hown, hts⟩ (c_X11_of l D cA ad M x1 (0 : Int32) hc51) (cwV 2 hts gX11_ideal_X11_of rfl rfl rfl (by decide +kernel) ⟨Nat.le_of_ble_eq_true rfl, Nat.le_of_ble_eq_true rfl⟩) (xpreV hK hW (k := 0) rfl (by decide) rfl) rfl rfl hl.1 rfl (lv_room (Nat.le_of_ble_eq_true rfl)) dX11_ideal_51 ⟨Nat.le_of_ble_eq_true rfl, Nat.le_of_ble_eq_true rfl⟩) hW (fun H locs hW => ?_)
        obtain ⟨hc54, hr⟩ := chk_e hr
        refine lv_idiv hx hb dX11_ideal_54 (of_decide_eq_true hc54) ?_
        obtain ⟨x5_6, ex5_6, hr⟩ := lt1_e hr
        rw [← ex5_6]
        refine lv_istore (lv' := [(5, .int x5_6), (0, .ref (ad 0)), (1, .int x1), (2, .int x2), (3, .int x3), (4, .int x4)]) hx hb dX11_ideal_55 hl (by decide) rfl (fun ls hl => ?_)
        refine lv_iload_n hx hb dX11_ideal_57 rfl (lv_at hl 3 rfl) ?_
        refine lv_i2l hx hb dX11_ideal_58 rfl ?_
        refine lv_ldc2 (v := (1000 : Int64)) hx hb hown (hts _ (wm 3 rfl)) dX11_ideal_59 ?_
        refine lv_lmul hx hb dX11_ideal_62 ?_
        refine lv_iload hx hb dX11_ideal_63 (lv_at hl 5 rfl) ?_
        obtain ⟨y_7, hr, hr3⟩ := ob1_e hr
        have hj76_7 : ∀ (H : Heap) (locs : List Loc) (ls : Array Slot), Xw D false cA ad M (AX false ad) s.heap H locs → lv_has ls 8 [(0, .ref (ad 0)), (1, .int x1)] → W p l e (headSpec wsX11_ideal { frames := 2, cells := 0, slots := 0, locals := 43 }).room s m args below meth c H locs 0 0 (MQ below (QiX false D false cA ad r M) args s 0 0 (AX false ad)) (F0 m 76 ls [.int y_7, .long ((Int32.toInt64 x2) * (1000 : Int64))]) := by
          intro H locs ls hW hl
          have hr := hr3
          refine lv_i2l hx hb dX11_ideal_76 rfl ?_
          refine lv_ladd hx hb dX11_ideal_77 ?_
          obtain ⟨x6_8, ex6_8, hr⟩ := lt1_e hr
          rw [← ex6_8]
          refine lv_lstore (lv' := [(6, .long x6_8), (0, .ref (ad 0)), (1, .int x1)]) hx hb dX11_ideal_78 hl (by decide) rfl (fun ls hl => ?_)
          refine lv_aload_n hx hb dX11_ideal_80 rfl (lv_at hl 1 rfl) ?_
          refine lv_iload_n hx hb dX11_ideal_81 rfl (lv_at hl 2 rfl) ?_
          refine lv_iconst (v := (0 : Int32)) hx hb dX11_ideal_82 (by decide) ?_
          obtain ⟨r_9, hc83, hr⟩ := ob1_e hr
          refine xk_i (va_runV (As := [.int x1, .int (0 : Int32)]) (rest := []) ⟨hx, hb, hml, hown, hts⟩ (c_X11_of l D cA ad M x1 (0 : Int32) hc83) (cwV 2 hts gX11_ideal_X11_of rfl rfl rfl (by decide +kernel) ⟨Nat.le_of_ble_eq_true rfl, Nat.le_of_ble_eq_true rfl⟩) (xpreV hK hW (k := 0) rfl (by decide) rfl) rfl rfl hl.1 rfl (lv_room (Nat.le_of_ble_eq_true rfl)) dX11_ideal_83 ⟨Nat.le_of_ble_eq_true rfl, Nat.le_of_ble_eq_true rfl⟩) hW (fun H locs hW => ?_)
          refine lv_i2l hx hb dX11_ideal_86 rfl ?_
          refine lv_ldc2 (v := (1000000000 : Int64)) hx hb hown (hts _ (wm 4 rfl)) dX11_ideal_87 ?_
          refine lv_lmul hx hb dX11_ideal_90 ?_
          refine lv_lload hx hb dX11_ideal_91 (lv_at hl 0 rfl) ?_
          obtain ⟨hc93, hr⟩ := chk_e hr
          refine lv_ldiv hx hb dX11_ideal_93 (of_decide_eq_true hc93) ?_
          refine lv_l2i hx hb dX11_ideal_94 rfl ?_
          refine lv_aload_n hx hb dX11_ideal_95 rfl (lv_at hl 1 rfl) ?_
          refine lv_iload_n hx hb dX11_ideal_96 rfl (lv_at hl 2 rfl) ?_
          refine lv_iconst (v := (4 : Int32)) hx hb dX11_ideal_97 (by decide) ?_
          obtain ⟨r_10, hc98, hr⟩ := ob1_e hr
          refine xk_i (va_runV (As := [.int x1, .int (4 : Int32)]) (rest := [.int (Int64.toInt32 (((Int32.toInt64 r_9) * (1000000000 : Int64)) / x6_8))]) ⟨hx, hb, hml, hown, hts⟩ (c_X11_of l D cA ad M x1 (4 : Int32) hc98) (cwV 2 hts gX11_ideal_X11_of rfl rfl rfl (by decide +kernel) ⟨Nat.le_of_ble_eq_true rfl, Nat.le_of_ble_eq_true rfl⟩) (xpreV hK hW (k := 0) rfl (by decide) rfl) rfl rfl hl.1 rfl (lv_room (Nat.le_of_ble_eq_true rfl)) dX11_ideal_98 ⟨Nat.le_of_ble_eq_true rfl, Nat.le_of_ble_eq_true rfl⟩) hW (fun H locs hW => ?_)
          refine lv_iadd hx hb dX11_ideal_101 ?_
          rw [← Option.some.inj hr]
          exact xiret hx hb hr0 hlocks hW adR_rf dX11_ideal_102
        clear hr3
        refine lv_if_eq (tgt := 74) hx hb dX11_ideal_65 (by decide) (fun c1 => ?_) (fun c1 => ?_)
        · have hr := br_p c1 hr
          refine lv_iload hx hb dX11_ideal_74 (lv_at hl 0 rfl) ?_
          have e1 := Option.some.inj hr
          subst e1
          exact hj76_7 _ _ _ hW (lv_sub hl [1, 2] rfl)
        · have hr := br_n c1 hr
          refine lv_iload hx hb dX11_ideal_68 (lv_at hl 0 rfl) ?_
          refine lv_ineg hx hb dX11_ideal_70 ?_
          refine lv_goto (tgt := 76) hx hb dX11_ideal_71 (by decide) ?_
          have e1 := Option.some.inj hr
          subst e1
          exact hj76_7 _ _ _ hW (lv_sub hl [1, 2] rfl)
      · have hr := br_p c1 hr
        refine lv_ldc (v := (-2000000002 : Int32)) hx hb hown (hts _ (wm 2 rfl)) dX11_ideal_37 ?_
        rw [← Option.some.inj hr]
        exact xiret hx hb hr0 hlocks hW adR_rf dX11_ideal_39
  · have hr := br_p c1 hr
    refine lv_ldc (v := (-2000000001 : Int32)) hx hb hown (hts _ (wm 1 rfl)) dX11_ideal_8 ?_
    rw [← Option.some.inj hr]
    exact xiret hx hb hr0 hlocks hW adR_rf dX11_ideal_10

set_option maxHeartbeats 4000000 in
set_option maxRecDepth 100000 in
theorem c_X11_wouldBe (l : Launch) (D : va_G) (cA : Nat → ClassId) (ad : Nat → Nat) (M : Mm) {r : Int32} {M' : Mm} (hr : f_X11_wouldBe M = some (r, M')) : Met l yX11_wouldBe wsX11_wouldBe ({ frames := 4, cells := 0, slots := 0, locals := 97 }) (PcX D false cA ad M [.ref (ad 0)]) (QiX false D false cA ad r M') 0 0 (AX false ad) := by
  refine Met.ofW (cc := cX11_wouldBe) (maxL := 1) (ret := (some .int)) (by decide) rfl ?_
  intro p e s m args below meth c s₁ B hml hv
  obtain ⟨hav, hP0, hK⟩ := hv
  have hx := B.exec
  have hb := B.bytes
  have hr0 := B.returns
  have hts := atoms_spec (ws := wsX11_wouldBe) B.pre
  have hown : s.vm.findClass RX11 = some m.cls := findClass_of_methodNamed B.named
  have hlocks := B.notSynchronized
  have hW := xstart hP0
  have hi11 : ∀ w ∈ wsX110, w ∈ wsX11_wouldBe := fun w h => List.mem_cons_of_mem _ (List.mem_append_right _ h)
  have hl := lv_entry ([.ref (ad 0)]) (n := 1) (Nat.le_of_ble_eq_true rfl)
  have hef := lg_entry_eq m ([.ref (ad 0)]) 1
  rw [← hav] at hef
  rw [hef]
  clear hef
  generalize (lg_sl ([.ref (ad 0)]) ++ List.replicate (1 - (lg_sl ([.ref (ad 0)])).length) Slot.unset).toArray = ls at hl ⊢
  have hl : lv_has ls 1 [(0, .ref (ad 0))] := hl
  clear hP0
  unfold f_X11_wouldBe at hr
  refine lv_aload_n hx hb dX11_wouldBe_0 rfl (lv_at hl 0 rfl) ?_
  refine g11_0 hx hb hts hi11 hown hK hW (k := 0) rfl (hts _ (wm 1 rfl)) dX11_wouldBe_1 ?_
  refine lv_bipush (v := (64 : Int32)) hx hb dX11_wouldBe_4 (by decide) ?_
  refine xiald hx hb hK hW (k := 1) (t := 24) rfl (by decide) (by decide) rfl (n := 159) (by decide) (jx := 64) (by decide) dX11_wouldBe_6 ?_
  refine lv_if_ne (tgt := 13) hx hb dX11_wouldBe_7 (by decide) (fun c1 => ?_) (fun c1 => ?_)
  · have hr := br_n c1 hr
    refine lv_aload_n hx hb dX11_wouldBe_13 rfl (lv_at hl 0 rfl) ?_
    refine lv_aload_n hx hb dX11_wouldBe_14 rfl (lv_at hl 0 rfl) ?_
    refine g11_0 hx hb hts hi11 hown hK hW (k := 0) rfl (hts _ (wm 1 rfl)) dX11_wouldBe_15 ?_
    refine lv_bipush (v := (79 : Int32)) hx hb dX11_wouldBe_18 (by decide) ?_
    refine xiald hx hb hK hW (k := 1) (t := 24) rfl (by decide) (by decide) rfl (n := 159) (by decide) (jx := 79) (by decide) dX11_wouldBe_20 ?_
    obtain ⟨r_2, M_1, hc21, hr⟩ := ob2_e hr
    refine xk_i (va_runV (As := [.int (gI M 1 79)]) (rest := []) ⟨hx, hb, hml, hown, hts⟩ (c_X11_worksOut l D cA ad M (gI M 1 79) hc21) (cwV 1 hts gX11_wouldBe_X11_worksOut rfl rfl rfl (by decide +kernel) ⟨Nat.le_of_ble_eq_true rfl, Nat.le_of_ble_eq_true rfl⟩) (xpreV hK hW (k := 0) rfl (by decide) rfl) rfl rfl hl.1 rfl (lv_room (Nat.le_of_ble_eq_true rfl)) dX11_wouldBe_21 ⟨Nat.le_of_ble_eq_true rfl, Nat.le_of_ble_eq_true rfl⟩) hW (fun H locs hW => ?_)
    refine lv_if_eq (tgt := 34) hx hb dX11_wouldBe_24 (by decide) (fun c1 => ?_) (fun c1 => ?_)
    · have hr := br_p c1 hr
      refine lv_ldc (v := (-2000000005 : Int32)) hx hb hown (hts _ (wm 3 rfl)) dX11_wouldBe_34 ?_
      obtain ⟨e1, e2⟩ := Prod.mk.inj (Option.some.inj hr)
      rw [← e1, ← e2]
      exact xiret hx hb hr0 hlocks hW adR_rf dX11_wouldBe_36
    · have hr := br_n c1 hr
      refine lv_aload_n hx hb dX11_wouldBe_27 rfl (lv_at hl 0 rfl) ?_
      obtain ⟨r_3, hc28, hr⟩ := ob1_e hr
      refine xk_i (va_runV (As := []) (rest := []) ⟨hx, hb, hml, hown, hts⟩ (c_X11_roundVelocity l D cA ad M_1 hc28) (cwV 0 hts gX11_wouldBe_X11_roundVelocity rfl rfl rfl (by decide +kernel) ⟨Nat.le_of_ble_eq_true rfl, Nat.le_of_ble_eq_true rfl⟩) (xpreV hK hW (k := 0) rfl (by decide) rfl) rfl rfl hl.1 rfl (lv_room (Nat.le_of_ble_eq_true rfl)) dX11_wouldBe_28 ⟨Nat.le_of_ble_eq_true rfl, Nat.le_of_ble_eq_true rfl⟩) hW (fun H locs hW => ?_)
      refine lv_goto (tgt := 36) hx hb dX11_wouldBe_31 (by decide) ?_
      obtain ⟨e1, e2⟩ := Prod.mk.inj (Option.some.inj hr)
      rw [← e1, ← e2]
      exact xiret hx hb hr0 hlocks hW adR_rf dX11_wouldBe_36
  · have hr := br_p c1 hr
    refine lv_ldc (v := (-2000000003 : Int32)) hx hb hown (hts _ (wm 2 rfl)) dX11_wouldBe_10 ?_
    obtain ⟨e1, e2⟩ := Prod.mk.inj (Option.some.inj hr)
    rw [← e1, ← e2]
    exact xiret hx hb hr0 hlocks hW adR_rf dX11_wouldBe_12

set_option maxHeartbeats 4000000 in
set_option maxRecDepth 100000 in
theorem c_X11_wouldBecome (l : Launch) (D : va_G) (cA : Nat → ClassId) (ad : Nat → Nat) (M : Mm) (x1 : Int32) {r : Int32} {M' : Mm} (hr : f_X11_wouldBecome x1 M = some (r, M')) : Met l yX11_wouldBecome wsX11_wouldBecome ({ frames := 4, cells := 0, slots := 0, locals := 97 }) (PcX D false cA ad M [.ref (ad 0), .int x1]) (QiX false D false cA ad r M') 0 0 (AX false ad) := by
  refine Met.ofW (cc := cX11_wouldBecome) (maxL := 3) (ret := (some .int)) (by decide) rfl ?_
  intro p e s m args below meth c s₁ B hml hv
  obtain ⟨hav, hP0, hK⟩ := hv
  have hx := B.exec
  have hb := B.bytes
  have hr0 := B.returns
  have hts := atoms_spec (ws := wsX11_wouldBecome) B.pre
  have hown : s.vm.findClass RX11 = some m.cls := findClass_of_methodNamed B.named
  have hlocks := B.notSynchronized
  have hW := xstart hP0
  have hi11 : ∀ w ∈ wsX110, w ∈ wsX11_wouldBecome := fun w h => List.mem_cons_of_mem _ (List.mem_append_right _ h)
  have hl := lv_entry ([.ref (ad 0), .int x1]) (n := 3) (Nat.le_of_ble_eq_true rfl)
  have hef := lg_entry_eq m ([.ref (ad 0), .int x1]) 3
  rw [← hav] at hef
  rw [hef]
  clear hef
  generalize (lg_sl ([.ref (ad 0), .int x1]) ++ List.replicate (3 - (lg_sl ([.ref (ad 0), .int x1])).length) Slot.unset).toArray = ls at hl ⊢
  have hl : lv_has ls 3 [(0, .ref (ad 0)), (1, .int x1)] := hl
  clear hP0
  unfold f_X11_wouldBecome at hr
  refine lv_aload_n hx hb dX11_wouldBecome_0 rfl (lv_at hl 0 rfl) ?_
  refine lv_iload_n hx hb dX11_wouldBecome_1 rfl (lv_at hl 1 rfl) ?_
  obtain ⟨r_1, hc2, hr⟩ := ob1_e hr
  refine xk_i (va_runV (As := [.int x1]) (rest := []) ⟨hx, hb, hml, hown, hts⟩ (c_X11_isPath l D cA ad M x1 hc2) (cwV 1 hts gX11_wouldBecome_X11_isPath rfl rfl rfl (by decide +kernel) ⟨Nat.le_of_ble_eq_true rfl, Nat.le_of_ble_eq_true rfl⟩) (xpreV hK hW (k := 0) rfl (by decide) rfl) rfl rfl hl.1 rfl (lv_room (Nat.le_of_ble_eq_true rfl)) dX11_wouldBecome_2 ⟨Nat.le_of_ble_eq_true rfl, Nat.le_of_ble_eq_true rfl⟩) hW (fun H locs hW => ?_)
  refine lv_if_ne (tgt := 11) hx hb dX11_wouldBecome_5 (by decide) (fun c1 => ?_) (fun c1 => ?_)
  · have hr := br_n c1 hr
    refine lv_aload_n hx hb dX11_wouldBecome_11 rfl (lv_at hl 0 rfl) ?_
    refine lv_aload_n hx hb dX11_wouldBecome_12 rfl (lv_at hl 0 rfl) ?_
    refine g11_0 hx hb hts hi11 hown hK hW (k := 0) rfl (hts _ (wm 2 rfl)) dX11_wouldBecome_13 ?_
    refine lv_bipush (v := (79 : Int32)) hx hb dX11_wouldBecome_16 (by decide) ?_
    refine xiald hx hb hK hW (k := 1) (t := 24) rfl (by decide) (by decide) rfl (n := 159) (by decide) (jx := 79) (by decide) dX11_wouldBecome_18 ?_
    obtain ⟨r_3, M_2, hc19, hr⟩ := ob2_e hr
    refine xk_i (va_runV (As := [.int (gI M 1 79)]) (rest := []) ⟨hx, hb, hml, hown, hts⟩ (c_X11_worksOut l D cA ad M (gI M 1 79) hc19) (cwV 1 hts gX11_wouldBecome_X11_worksOut rfl rfl rfl (by decide +kernel) ⟨Nat.le_of_ble_eq_true rfl, Nat.le_of_ble_eq_true rfl⟩) (xpreV hK hW (k := 0) rfl (by decide) rfl) rfl rfl hl.1 rfl (lv_room (Nat.le_of_ble_eq_true rfl)) dX11_wouldBecome_19 ⟨Nat.le_of_ble_eq_true rfl, Nat.le_of_ble_eq_true rfl⟩) hW (fun H locs hW => ?_)
    refine lv_istore_n (lv' := [(2, .int r_3), (0, .ref (ad 0)), (1, .int x1)]) hx hb dX11_wouldBecome_22 rfl hl (by decide) rfl (fun ls hl => ?_)
    refine lv_aload_n hx hb dX11_wouldBecome_23 rfl (lv_at hl 1 rfl) ?_
    refine g11_10 hx hb hts hi11 hown hK hW (k := 0) rfl (hts _ (wm 3 rfl)) dX11_wouldBecome_24 ?_
    refine lv_iload_n hx hb dX11_wouldBecome_27 rfl (lv_at hl 2 rfl) ?_
    obtain ⟨hn28, hr⟩ := chk_e hr
    refine xiald hx hb hK hW (k := 9) (t := 20) rfl (by decide) (by decide) rfl (n := 4) hn28 (jx := (ix x1)) rfl dX11_wouldBecome_28 ?_
    obtain ⟨e1, e2⟩ := Prod.mk.inj (Option.some.inj hr)
    rw [← e1, ← e2]
    exact xiret hx hb hr0 hlocks hW adR_rf dX11_wouldBecome_29
  · have hr := br_p c1 hr
    refine lv_ldc (v := (-2000000001 : Int32)) hx hb hown (hts _ (wm 1 rfl)) dX11_wouldBecome_8 ?_
    obtain ⟨e1, e2⟩ := Prod.mk.inj (Option.some.inj hr)
    rw [← e1, ← e2]
    exact xiret hx hb hr0 hlocks hW adR_rf dX11_wouldBecome_10

set_option maxHeartbeats 4000000 in
set_option maxRecDepth 100000 in
theorem c_X11_skipsNeeded (l : Launch) (D : va_G) (cA : Nat → ClassId) (ad : Nat → Nat) (M : Mm) {r : Int32} {M' : Mm} (hr : f_X11_skipsNeeded M = some (r, M')) : Met l yX11_skipsNeeded wsX11_skipsNeeded ({ frames := 4, cells := 0, slots := 0, locals := 97 }) (PcX D false cA ad M [.ref (ad 0)]) (QiX false D false cA ad r M') 0 0 (AX false ad) := by
  refine Met.ofW (cc := cX11_skipsNeeded) (maxL := 5) (ret := (some .int)) (by decide) rfl ?_
  intro p e s m args below meth c s₁ B hml hv
  obtain ⟨hav, hP0, hK⟩ := hv
  have hx := B.exec
  have hb := B.bytes
  have hr0 := B.returns
  have hts := atoms_spec (ws := wsX11_skipsNeeded) B.pre
  have hown : s.vm.findClass RX11 = some m.cls := findClass_of_methodNamed B.named
  have hlocks := B.notSynchronized
  have hW := xstart hP0
  have hi11 : ∀ w ∈ wsX110, w ∈ wsX11_skipsNeeded := fun w h => List.mem_cons_of_mem _ (List.mem_append_right _ h)
  have hl := lv_entry ([.ref (ad 0)]) (n := 5) (Nat.le_of_ble_eq_true rfl)
  have hef := lg_entry_eq m ([.ref (ad 0)]) 5
  rw [← hav] at hef
  rw [hef]
  clear hef
  generalize (lg_sl ([.ref (ad 0)]) ++ List.replicate (5 - (lg_sl ([.ref (ad 0)])).length) Slot.unset).toArray = ls at hl ⊢
  have hl : lv_has ls 5 [(0, .ref (ad 0))] := hl
  clear hP0
  unfold f_X11_skipsNeeded at hr
  refine lv_iconst (v := (0 : Int32)) hx hb dX11_skipsNeeded_0 (by decide) ?_
  refine lv_istore_n (lv' := [(1, .int (0 : Int32)), (0, .ref (ad 0))]) hx hb dX11_skipsNeeded_1 rfl hl (by decide) rfl (fun ls hl => ?_)
  have hL2_1 : ∀ (n : Nat) (x1_1 : Int32) (M_2 : Mm) (H : Heap) (locs : List Loc) (ls : Array Slot), Xw D false cA ad M_2 (AX false ad) s.heap H locs → lv_has ls 5 [(0, .ref (ad 0)), (1, .int x1_1)] → f_X11_skipsNeeded_L2 n x1_1 M_2 = some (r, M') → W p l e (headSpec wsX11_skipsNeeded { frames := 4, cells := 0, slots := 0, locals := 97 }).room s m args below meth c H locs 0 0 (MQ below (QiX false D false cA ad r M') args s 0 0 (AX false ad)) (F0 m 2 ls []) := by
    intro n
    induction n with
    | zero =>
      intro x1_1 M_2 H locs ls hW hl hr
      exact absurd hr (by simp [f_X11_skipsNeeded_L2])
    | succ n ih =>
      intro x1_1 M_2 H locs ls hW hl hr
      rw [f_X11_skipsNeeded_L2] at hr
      refine lv_iload_n hx hb dX11_skipsNeeded_2 rfl (lv_at hl 1 rfl) ?_
      refine lv_iconst (v := (5 : Int32)) hx hb dX11_skipsNeeded_3 (by decide) ?_
      refine lv_icmp_gt (tgt := 69) hx hb dX11_skipsNeeded_4 (by decide) (fun c1 => ?_) (fun c1 => ?_)
      · have hr := br_p c1 hr
        refine lv_ldc (v := (-2000000005 : Int32)) hx hb hown (hts _ (wm 3 rfl)) dX11_skipsNeeded_69 ?_
        obtain ⟨e1, e2⟩ := Prod.mk.inj (Option.some.inj hr)
        rw [← e1, ← e2]
        exact xiret hx hb hr0 hlocks hW adR_rf dX11_skipsNeeded_71
      · have hr := br_n c1 hr
        refine lv_aload_n hx hb dX11_skipsNeeded_7 rfl (lv_at hl 0 rfl) ?_
        refine lv_iload_n hx hb dX11_skipsNeeded_8 rfl (lv_at hl 1 rfl) ?_
        obtain ⟨r_4, M_3, hc9, hr⟩ := ob2_e hr
        refine xk_i (va_runV (As := [.int x1_1]) (rest := []) ⟨hx, hb, hml, hown, hts⟩ (c_X11_worksOut l D cA ad M_2 x1_1 hc9) (cwV 1 hts gX11_skipsNeeded_X11_worksOut rfl rfl rfl (by decide +kernel) ⟨Nat.le_of_ble_eq_true rfl, Nat.le_of_ble_eq_true rfl⟩) (xpreV hK hW (k := 0) rfl (by decide) rfl) rfl rfl hl.1 rfl (lv_room (Nat.le_of_ble_eq_true rfl)) dX11_skipsNeeded_9 ⟨Nat.le_of_ble_eq_true rfl, Nat.le_of_ble_eq_true rfl⟩) hW (fun H locs hW => ?_)
        refine lv_istore_n (lv' := [(2, .int r_4), (0, .ref (ad 0)), (1, .int x1_1)]) hx hb dX11_skipsNeeded_12 rfl hl (by decide) rfl (fun ls hl => ?_)
        refine lv_iconst (v := (0 : Int32)) hx hb dX11_skipsNeeded_13 (by decide) ?_
        refine lv_istore_n (lv' := [(3, .int (0 : Int32)), (2, .int r_4), (0, .ref (ad 0)), (1, .int x1_1)]) hx hb dX11_skipsNeeded_14 rfl hl (by decide) rfl (fun ls hl => ?_)
        refine lv_iconst (v := (0 : Int32)) hx hb dX11_skipsNeeded_15 (by decide) ?_
        refine lv_istore (lv' := [(4, .int (0 : Int32)), (3, .int (0 : Int32)), (2, .int r_4), (0, .ref (ad 0)), (1, .int x1_1)]) hx hb dX11_skipsNeeded_16 hl (by decide) rfl (fun ls hl => ?_)
        have hL18_2 : ∀ (n : Nat) (x3_5 : Int32) (x4_6 : Int32) (H : Heap) (locs : List Loc) (ls : Array Slot) (x3_7 : Int32), Xw D false cA ad M_3 (AX false ad) s.heap H locs → lv_has ls 5 [(0, .ref (ad 0)), (1, .int x1_1), (3, .int x3_5), (4, .int x4_6)] → f_X11_skipsNeeded_L18 M_3 n x3_5 x4_6 = some x3_7 → (∀ (H : Heap) (locs : List Loc) (ls : Array Slot), Xw D false cA ad M_3 (AX false ad) s.heap H locs → lv_has ls 5 [(0, .ref (ad 0)), (1, .int x1_1), (3, .int x3_7)] → W p l e (headSpec wsX11_skipsNeeded { frames := 4, cells := 0, slots := 0, locals := 97 }).room s m args below meth c H locs 0 0 (MQ below (QiX false D false cA ad r M') args s 0 0 (AX false ad)) (F0 m 57 ls [])) → W p l e (headSpec wsX11_skipsNeeded { frames := 4, cells := 0, slots := 0, locals := 97 }).room s m args below meth c H locs 0 0 (MQ below (QiX false D false cA ad r M') args s 0 0 (AX false ad)) (F0 m 18 ls []) := by
          intro n
          induction n with
          | zero =>
            intro x3_5 x4_6 H locs ls x3_7 hW hl hr hk
            exact absurd hr (by simp [f_X11_skipsNeeded_L18])
          | succ n ih =>
            intro x3_5 x4_6 H locs ls x3_7 hW hl hr hk
            rw [f_X11_skipsNeeded_L18] at hr
            refine lv_iload hx hb dX11_skipsNeeded_18 (lv_at hl 3 rfl) ?_
            refine lv_aload_n hx hb dX11_skipsNeeded_20 rfl (lv_at hl 0 rfl) ?_
            refine g11_0 hx hb hts hi11 hown hK hW (k := 0) rfl (hts _ (wm 1 rfl)) dX11_skipsNeeded_21 ?_
            refine lv_bipush (v := (64 : Int32)) hx hb dX11_skipsNeeded_24 (by decide) ?_
            refine xiald hx hb hK hW (k := 1) (t := 24) rfl (by decide) (by decide) rfl (n := 159) (by decide) (jx := 64) (by decide) dX11_skipsNeeded_26 ?_
            refine lv_icmp_ge (tgt := 57) hx hb dX11_skipsNeeded_27 (by decide) (fun c1 => ?_) (fun c1 => ?_)
            · have hr := br_p c1 hr
              have e1 := Option.some.inj hr
              subst e1
              exact hk _ _ _ hW (lv_sub hl [0, 1, 2] rfl)
            · have hr := br_n c1 hr
              refine lv_iload_n hx hb dX11_skipsNeeded_30 rfl (lv_at hl 2 rfl) ?_
              obtain ⟨y_8, hr, hr3⟩ := ob1_e hr
              have hj50_8 : ∀ (H : Heap) (locs : List Loc) (ls : Array Slot), Xw D false cA ad M_3 (AX false ad) s.heap H locs → lv_has ls 5 [(0, .ref (ad 0)), (1, .int x1_1), (4, .int x4_6)] → W p l e (headSpec wsX11_skipsNeeded { frames := 4, cells := 0, slots := 0, locals := 97 }).room s m args below meth c H locs 0 0 (MQ below (QiX false D false cA ad r M') args s 0 0 (AX false ad)) (F0 m 50 ls [.int y_8]) := by
                intro H locs ls hW hl
                have hr := hr3
                refine lv_istore_n (lv' := [(3, .int y_8), (0, .ref (ad 0)), (1, .int x1_1), (4, .int x4_6)]) hx hb dX11_skipsNeeded_50 rfl hl (by decide) rfl (fun ls hl => ?_)
                obtain ⟨x4_9, ex4_9, hr⟩ := lt1_e hr
                refine lv_iinc (v := x4_9) (lv' := [(4, .int x4_9), (3, .int y_8), (0, .ref (ad 0)), (1, .int x1_1)]) hx hb dX11_skipsNeeded_51 hl (k := 3) rfl (by rw [ex4_9]; rfl) (by decide) rfl (fun ls hl => ?_)
                refine lv_goto (tgt := 18) hx hb dX11_skipsNeeded_54 (by decide) ?_
                exact ih y_8 x4_9 _ _ _ _ hW (lv_sub hl [2, 3, 1, 0] rfl) hr hk
              clear hr3
              refine lv_if_ne (tgt := 45) hx hb dX11_skipsNeeded_31 (by decide) (fun c1 => ?_) (fun c1 => ?_)
              · have hr := br_n c1 hr
                refine lv_iconst (v := (1 : Int32)) hx hb dX11_skipsNeeded_45 (by decide) ?_
                refine lv_goto (tgt := 50) hx hb dX11_skipsNeeded_46 (by decide) ?_
                have e1 := Option.some.inj hr
                subst e1
                exact hj50_8 _ _ _ hW (lv_sub hl [0, 1, 3] rfl)
              · have hr := br_p c1 hr
                refine lv_aload_n hx hb dX11_skipsNeeded_34 rfl (lv_at hl 0 rfl) ?_
                refine g11_10 hx hb hts hi11 hown hK hW (k := 0) rfl (hts _ (wm 2 rfl)) dX11_skipsNeeded_35 ?_
                refine lv_iload hx hb dX11_skipsNeeded_38 (lv_at hl 3 rfl) ?_
                obtain ⟨hn40, hr⟩ := chk_e hr
                refine xiald hx hb hK hW (k := 9) (t := 20) rfl (by decide) (by decide) rfl (n := 4) hn40 (jx := (ix x4_6)) rfl dX11_skipsNeeded_40 ?_
                refine lv_iconst (v := (2 : Int32)) hx hb dX11_skipsNeeded_41 (by decide) ?_
                refine lv_icmp_ne (tgt := 49) hx hb dX11_skipsNeeded_42 (by decide) (fun c1 => ?_) (fun c1 => ?_)
                · have hr := br_n c1 hr
                  refine lv_iconst (v := (0 : Int32)) hx hb dX11_skipsNeeded_49 (by decide) ?_
                  have e1 := Option.some.inj hr
                  subst e1
                  exact hj50_8 _ _ _ hW (lv_sub hl [0, 1, 3] rfl)
                · have hr := br_p c1 hr
                  refine lv_iconst (v := (1 : Int32)) hx hb dX11_skipsNeeded_45 (by decide) ?_
                  refine lv_goto (tgt := 50) hx hb dX11_skipsNeeded_46 (by decide) ?_
                  have e1 := Option.some.inj hr
                  subst e1
                  exact hj50_8 _ _ _ hW (lv_sub hl [0, 1, 3] rfl)
        obtain ⟨x3_7, hr, hr3⟩ := ob1_e hr
        refine hL18_2 1000 (0 : Int32) (0 : Int32) _ _ _ x3_7 hW (lv_sub hl [3, 4, 1, 0] rfl) hr (fun H locs ls hW hl => ?_)
        clear hr
        have hr := hr3
        refine lv_iload_n hx hb dX11_skipsNeeded_57 rfl (lv_at hl 2 rfl) ?_
        refine lv_if_ne (tgt := 63) hx hb dX11_skipsNeeded_58 (by decide) (fun c1 => ?_) (fun c1 => ?_)
        · have hr := br_n c1 hr
          obtain ⟨x1_10, ex1_10, hr⟩ := lt1_e hr
          refine lv_iinc (v := x1_10) (lv' := [(1, .int x1_10), (0, .ref (ad 0)), (3, .int x3_7)]) hx hb dX11_skipsNeeded_63 hl (k := 1) rfl (by rw [ex1_10]; rfl) (by decide) rfl (fun ls hl => ?_)
          refine lv_goto (tgt := 2) hx hb dX11_skipsNeeded_66 (by decide) ?_
          exact ih x1_10 M_3 _ _ _ hW (lv_sub hl [1, 0] rfl) hr
        · have hr := br_p c1 hr
          refine lv_iload_n hx hb dX11_skipsNeeded_61 rfl (lv_at hl 1 rfl) ?_
          obtain ⟨e1, e2⟩ := Prod.mk.inj (Option.some.inj hr)
          rw [← e1, ← e2]
          exact xiret hx hb hr0 hlocks hW adR_rf dX11_skipsNeeded_62
  exact hL2_1 1000 (0 : Int32) M _ _ _ hW (lv_sub hl [1, 0] rfl) hr

set_option maxHeartbeats 4000000 in
set_option maxRecDepth 100000 in
theorem c_X11_timeOf (l : Launch) (D : va_G) (cA : Nat → ClassId) (ad : Nat → Nat) (M : Mm) (x1 : Int32) (x2 : Int32) {r : Int64} (hr : f_X11_timeOf x1 x2 M = some r) : Met l yX11_timeOf wsX11_timeOf ({ frames := 1, cells := 0, slots := 0, locals := 22 }) (PcX D false cA ad M [.ref (ad 0), .int x1, .int x2]) (QlX false D false cA ad r M) 0 0 (AX false ad) := by
  refine Met.ofW (cc := cX11_timeOf) (maxL := 3) (ret := (some .long)) (by decide) rfl ?_
  intro p e s m args below meth c s₁ B hml hv
  obtain ⟨hav, hP0, hK⟩ := hv
  have hx := B.exec
  have hb := B.bytes
  have hr0 := B.returns
  have hts := atoms_spec (ws := wsX11_timeOf) B.pre
  have hown : s.vm.findClass RX11 = some m.cls := findClass_of_methodNamed B.named
  have hlocks := B.notSynchronized
  have hW := xstart hP0
  have hi11 : ∀ w ∈ wsX110, w ∈ wsX11_timeOf := fun w h => List.mem_cons_of_mem _ (List.mem_append_right _ h)
  have hl := lv_entry ([.ref (ad 0), .int x1, .int x2]) (n := 3) (Nat.le_of_ble_eq_true rfl)
  have hef := lg_entry_eq m ([.ref (ad 0), .int x1, .int x2]) 3
  rw [← hav] at hef
  rw [hef]
  clear hef
  generalize (lg_sl ([.ref (ad 0), .int x1, .int x2]) ++ List.replicate (3 - (lg_sl ([.ref (ad 0), .int x1, .int x2])).length) Slot.unset).toArray = ls at hl ⊢
  have hl : lv_has ls 3 [(0, .ref (ad 0)), (1, .int x1), (2, .int x2)] := hl
  clear hP0
  unfold f_X11_timeOf at hr
  refine lv_aload_n hx hb dX11_timeOf_0 rfl (lv_at hl 0 rfl) ?_
  refine lv_iload_n hx hb dX11_timeOf_1 rfl (lv_at hl 1 rfl) ?_
  refine lv_bipush (v := (13 : Int32)) hx hb dX11_timeOf_2 (by decide) ?_
  refine lv_iload_n hx hb dX11_timeOf_4 rfl (lv_at hl 2 rfl) ?_
  refine lv_iadd hx hb dX11_timeOf_5 ?_
  obtain ⟨r_1, hc6, hr⟩ := ob1_e hr
  refine xk_i (va_runV (As := [.int x1, .int ((13 : Int32) + x2)]) (rest := []) ⟨hx, hb, hml, hown, hts⟩ (c_X11_of l D cA ad M x1 ((13 : Int32) + x2) hc6) (cwV 2 hts gX11_timeOf_X11_of rfl rfl rfl (by decide +kernel) ⟨Nat.le_of_ble_eq_true rfl, Nat.le_of_ble_eq_true rfl⟩) (xpreV hK hW (k := 0) rfl (by decide) rfl) rfl rfl hl.1 rfl (lv_room (Nat.le_of_ble_eq_true rfl)) dX11_timeOf_6 ⟨Nat.le_of_ble_eq_true rfl, Nat.le_of_ble_eq_true rfl⟩) hW (fun H locs hW => ?_)
  refine lv_i2l hx hb dX11_timeOf_9 rfl ?_
  refine lv_aload_n hx hb dX11_timeOf_10 rfl (lv_at hl 0 rfl) ?_
  refine g11_11 hx hb hts hi11 hown hK hW (k := 0) rfl (hts _ (wm 1 rfl)) dX11_timeOf_11 ?_
  refine lv_iconst (v := (2 : Int32)) hx hb dX11_timeOf_14 (by decide) ?_
  refine lv_iload_n hx hb dX11_timeOf_15 rfl (lv_at hl 1 rfl) ?_
  refine lv_imul hx hb dX11_timeOf_16 ?_
  refine lv_iload_n hx hb dX11_timeOf_17 rfl (lv_at hl 2 rfl) ?_
  refine lv_iadd hx hb dX11_timeOf_18 ?_
  obtain ⟨hn19, hr⟩ := chk_e hr
  refine xiald hx hb hK hW (k := 10) (t := 27) rfl (by decide) (by decide) rfl (n := 8) hn19 (jx := (ix (((2 : Int32) * x1) + x2))) rfl dX11_timeOf_19 ?_
  refine lv_i2l hx hb dX11_timeOf_20 rfl ?_
  refine lv_aload_n hx hb dX11_timeOf_21 rfl (lv_at hl 0 rfl) ?_
  refine lv_iload_n hx hb dX11_timeOf_22 rfl (lv_at hl 1 rfl) ?_
  refine lv_iconst (v := (3 : Int32)) hx hb dX11_timeOf_23 (by decide) ?_
  obtain ⟨r_2, hc24, hr⟩ := ob1_e hr
  refine xk_i (va_runV (As := [.int x1, .int (3 : Int32)]) (rest := [.long (Int32.toInt64 (gI M 10 (ix (((2 : Int32) * x1) + x2)))), .long (Int32.toInt64 r_1)]) ⟨hx, hb, hml, hown, hts⟩ (c_X11_of l D cA ad M x1 (3 : Int32) hc24) (cwV 2 hts gX11_timeOf_X11_of rfl rfl rfl (by decide +kernel) ⟨Nat.le_of_ble_eq_true rfl, Nat.le_of_ble_eq_true rfl⟩) (xpreV hK hW (k := 0) rfl (by decide) rfl) rfl rfl hl.1 rfl (lv_room (Nat.le_of_ble_eq_true rfl)) dX11_timeOf_24 ⟨Nat.le_of_ble_eq_true rfl, Nat.le_of_ble_eq_true rfl⟩) hW (fun H locs hW => ?_)
  refine lv_i2l hx hb dX11_timeOf_27 rfl ?_
  refine lv_lmul hx hb dX11_timeOf_28 ?_
  refine lv_lsub hx hb dX11_timeOf_29 ?_
  rw [← Option.some.inj hr]
  exact xlret hx hb hr0 hlocks hW adR_rf dX11_timeOf_30

set_option maxHeartbeats 4000000 in
set_option maxRecDepth 100000 in
theorem c_X11_isOff (l : Launch) (D : va_G) (cA : Nat → ClassId) (ad : Nat → Nat) (M : Mm) (x1 : Int32) (x2 : Int32) {r : Int32} (hr : f_X11_isOff x1 x2 M = some r) : Met l yX11_isOff wsX11_isOff ({ frames := 2, cells := 0, slots := 0, locals := 44 }) (PcX D false cA ad M [.ref (ad 0), .int x1, .int x2]) (QiX false D false cA ad r M) 0 0 (AX false ad) := by
  refine Met.ofW (cc := cX11_isOff) (maxL := 6) (ret := (some .boolean)) (by decide) rfl ?_
  intro p e s m args below meth c s₁ B hml hv
  obtain ⟨hav, hP0, hK⟩ := hv
  have hx := B.exec
  have hb := B.bytes
  have hr0 := B.returns
  have hts := atoms_spec (ws := wsX11_isOff) B.pre
  have hown : s.vm.findClass RX11 = some m.cls := findClass_of_methodNamed B.named
  have hlocks := B.notSynchronized
  have hW := xstart hP0
  have hi11 : ∀ w ∈ wsX110, w ∈ wsX11_isOff := fun w h => List.mem_cons_of_mem _ (List.mem_append_right _ h)
  have hl := lv_entry ([.ref (ad 0), .int x1, .int x2]) (n := 6) (Nat.le_of_ble_eq_true rfl)
  have hef := lg_entry_eq m ([.ref (ad 0), .int x1, .int x2]) 6
  rw [← hav] at hef
  rw [hef]
  clear hef
  generalize (lg_sl ([.ref (ad 0), .int x1, .int x2]) ++ List.replicate (6 - (lg_sl ([.ref (ad 0), .int x1, .int x2])).length) Slot.unset).toArray = ls at hl ⊢
  have hl : lv_has ls 6 [(0, .ref (ad 0)), (1, .int x1), (2, .int x2)] := hl
  clear hP0
  unfold f_X11_isOff at hr
  refine lv_aload_n hx hb dX11_isOff_0 rfl (lv_at hl 0 rfl) ?_
  refine g11_11 hx hb hts hi11 hown hK hW (k := 0) rfl (hts _ (wm 1 rfl)) dX11_isOff_1 ?_
  refine lv_iconst (v := (2 : Int32)) hx hb dX11_isOff_4 (by decide) ?_
  refine lv_iload_n hx hb dX11_isOff_5 rfl (lv_at hl 1 rfl) ?_
  refine lv_imul hx hb dX11_isOff_6 ?_
  obtain ⟨hn7, hr⟩ := chk_e hr
  refine xiald hx hb hK hW (k := 10) (t := 27) rfl (by decide) (by decide) rfl (n := 8) hn7 (jx := (ix ((2 : Int32) * x1))) rfl dX11_isOff_7 ?_
  obtain ⟨r_1, hc8, hr⟩ := ob1_e hr
  refine xk_i (va_runS (As := [.int (gI M 10 (ix ((2 : Int32) * x1)))]) (rest := []) ⟨hx, hb, hml, hown, hts⟩ (c_X11_size l D cA ad M (gI M 10 (ix ((2 : Int32) * x1))) hc8) (va_cwS 1 hts gX11_isOff_X11_size rfl rfl rfl (by decide +kernel) ⟨Nat.le_of_ble_eq_true rfl, Nat.le_of_ble_eq_true rfl⟩) (xpreS hK hW) rfl rfl hl.1 rfl (lv_room (Nat.le_of_ble_eq_true rfl)) dX11_isOff_8 ⟨Nat.le_of_ble_eq_true rfl, Nat.le_of_ble_eq_true rfl⟩) hW (fun H locs hW => ?_)
  refine lv_iload_n hx hb dX11_isOff_11 rfl (lv_at hl 2 rfl) ?_
  obtain ⟨y_2, hr, hr3⟩ := ob1_e hr
  have hj37_2 : ∀ (H : Heap) (locs : List Loc) (ls : Array Slot), Xw D false cA ad M (AX false ad) s.heap H locs → lv_has ls 6 [(0, .ref (ad 0)), (1, .int x1)] → W p l e (headSpec wsX11_isOff { frames := 2, cells := 0, slots := 0, locals := 44 }).room s m args below meth c H locs 0 0 (MQ below (QiX false D false cA ad r M) args s 0 0 (AX false ad)) (F0 m 37 ls [.int y_2]) := by
    intro H locs ls hW hl
    have hr := hr3
    refine lv_istore_n (lv' := [(3, .int y_2), (0, .ref (ad 0)), (1, .int x1)]) hx hb dX11_isOff_37 rfl hl (by decide) rfl (fun ls hl => ?_)
    refine lv_aload_n hx hb dX11_isOff_38 rfl (lv_at hl 1 rfl) ?_
    refine lv_iload_n hx hb dX11_isOff_39 rfl (lv_at hl 2 rfl) ?_
    refine lv_iconst (v := (4 : Int32)) hx hb dX11_isOff_40 (by decide) ?_
    obtain ⟨r_4, hc41, hr⟩ := ob1_e hr
    refine xk_i (va_runV (As := [.int x1, .int (4 : Int32)]) (rest := []) ⟨hx, hb, hml, hown, hts⟩ (c_X11_of l D cA ad M x1 (4 : Int32) hc41) (cwV 2 hts gX11_isOff_X11_of rfl rfl rfl (by decide +kernel) ⟨Nat.le_of_ble_eq_true rfl, Nat.le_of_ble_eq_true rfl⟩) (xpreV hK hW (k := 0) rfl (by decide) rfl) rfl rfl hl.1 rfl (lv_room (Nat.le_of_ble_eq_true rfl)) dX11_isOff_41 ⟨Nat.le_of_ble_eq_true rfl, Nat.le_of_ble_eq_true rfl⟩) hW (fun H locs hW => ?_)
    refine lv_sipush (v := (1000 : Int32)) hx hb dX11_isOff_44 (by decide) ?_
    refine lv_iadd hx hb dX11_isOff_47 ?_
    refine lv_i2l hx hb dX11_isOff_48 rfl ?_
    obtain ⟨x4_5, ex4_5, hr⟩ := lt1_e hr
    rw [← ex4_5]
    refine lv_lstore (lv' := [(4, .long x4_5), (3, .int y_2), (0, .ref (ad 0)), (1, .int x1)]) hx hb dX11_isOff_49 hl (by decide) rfl (fun ls hl => ?_)
    refine lv_iload_n hx hb dX11_isOff_51 rfl (lv_at hl 1 rfl) ?_
    refine lv_if_ne (tgt := 79) hx hb dX11_isOff_52 (by decide) (fun c1 => ?_) (fun c1 => ?_)
    · have hr := br_n c1 hr
      refine lv_iconst (v := (1 : Int32)) hx hb dX11_isOff_79 (by decide) ?_
      refine lv_goto (tgt := 84) hx hb dX11_isOff_80 (by decide) ?_
      rw [← Option.some.inj hr]
      exact xzret hx hb hr0 hlocks hW adR_rf (by decide) dX11_isOff_84
    · have hr := br_p c1 hr
      refine lv_aload_n hx hb dX11_isOff_55 rfl (lv_at hl 2 rfl) ?_
      refine lv_iload_n hx hb dX11_isOff_56 rfl (lv_at hl 3 rfl) ?_
      refine lv_iconst (v := (0 : Int32)) hx hb dX11_isOff_57 (by decide) ?_
      obtain ⟨r_6, hc58, hr⟩ := ob1_e hr
      refine xk_l (va_runV (As := [.int x1, .int (0 : Int32)]) (rest := []) ⟨hx, hb, hml, hown, hts⟩ (c_X11_timeOf l D cA ad M x1 (0 : Int32) hc58) (cwV 2 hts gX11_isOff_X11_timeOf rfl rfl rfl (by decide +kernel) ⟨Nat.le_of_ble_eq_true rfl, Nat.le_of_ble_eq_true rfl⟩) (xpreV hK hW (k := 0) rfl (by decide) rfl) rfl rfl hl.1 rfl (lv_room (Nat.le_of_ble_eq_true rfl)) dX11_isOff_58 ⟨Nat.le_of_ble_eq_true rfl, Nat.le_of_ble_eq_true rfl⟩) hW (fun H locs hW => ?_)
      refine lv_lload hx hb dX11_isOff_61 (lv_at hl 0 rfl) ?_
      refine xlc_lt (tgt := 79) hx hb dX11_isOff_63 dX11_isOff_64 (by decide) (fun c1 => ?_) (fun c1 => ?_)
      · have hr := br_p c1 hr
        refine lv_iconst (v := (1 : Int32)) hx hb dX11_isOff_79 (by decide) ?_
        refine lv_goto (tgt := 84) hx hb dX11_isOff_80 (by decide) ?_
        rw [← Option.some.inj hr]
        exact xzret hx hb hr0 hlocks hW adR_rf (by decide) dX11_isOff_84
      · have hr := br_n c1 hr
        refine lv_aload_n hx hb dX11_isOff_67 rfl (lv_at hl 2 rfl) ?_
        refine lv_iload_n hx hb dX11_isOff_68 rfl (lv_at hl 3 rfl) ?_
        refine lv_iconst (v := (1 : Int32)) hx hb dX11_isOff_69 (by decide) ?_
        obtain ⟨r_7, hc70, hr⟩ := ob1_e hr
        refine xk_l (va_runV (As := [.int x1, .int (1 : Int32)]) (rest := []) ⟨hx, hb, hml, hown, hts⟩ (c_X11_timeOf l D cA ad M x1 (1 : Int32) hc70) (cwV 2 hts gX11_isOff_X11_timeOf rfl rfl rfl (by decide +kernel) ⟨Nat.le_of_ble_eq_true rfl, Nat.le_of_ble_eq_true rfl⟩) (xpreV hK hW (k := 0) rfl (by decide) rfl) rfl rfl hl.1 rfl (lv_room (Nat.le_of_ble_eq_true rfl)) dX11_isOff_70 ⟨Nat.le_of_ble_eq_true rfl, Nat.le_of_ble_eq_true rfl⟩) hW (fun H locs hW => ?_)
        refine lv_lload hx hb dX11_isOff_73 (lv_at hl 0 rfl) ?_
        refine xlc_ge (tgt := 83) hx hb dX11_isOff_75 dX11_isOff_76 (by decide) (fun c1 => ?_) (fun c1 => ?_)
        · have hr := br_p c1 hr
          refine lv_iconst (v := (0 : Int32)) hx hb dX11_isOff_83 (by decide) ?_
          rw [← Option.some.inj hr]
          exact xzret hx hb hr0 hlocks hW adR_rf (by decide) dX11_isOff_84
        · have hr := br_n c1 hr
          refine lv_iconst (v := (1 : Int32)) hx hb dX11_isOff_79 (by decide) ?_
          refine lv_goto (tgt := 84) hx hb dX11_isOff_80 (by decide) ?_
          rw [← Option.some.inj hr]
          exact xzret hx hb hr0 hlocks hW adR_rf (by decide) dX11_isOff_84
  clear hr3
  refine lv_icmp_gt (tgt := 32) hx hb dX11_isOff_12 (by decide) (fun c1 => ?_) (fun c1 => ?_)
  · have hr := br_p c1 hr
    refine lv_iconst (v := (1 : Int32)) hx hb dX11_isOff_32 (by decide) ?_
    refine lv_goto (tgt := 37) hx hb dX11_isOff_33 (by decide) ?_
    have e1 := Option.some.inj hr
    subst e1
    exact hj37_2 _ _ _ hW (lv_sub hl [0, 1] rfl)
  · have hr := br_n c1 hr
    refine lv_aload_n hx hb dX11_isOff_15 rfl (lv_at hl 0 rfl) ?_
    refine g11_11 hx hb hts hi11 hown hK hW (k := 0) rfl (hts _ (wm 1 rfl)) dX11_isOff_16 ?_
    refine lv_iconst (v := (2 : Int32)) hx hb dX11_isOff_19 (by decide) ?_
    refine lv_iload_n hx hb dX11_isOff_20 rfl (lv_at hl 1 rfl) ?_
    refine lv_imul hx hb dX11_isOff_21 ?_
    refine lv_iconst (v := (1 : Int32)) hx hb dX11_isOff_22 (by decide) ?_
    refine lv_iadd hx hb dX11_isOff_23 ?_
    obtain ⟨hn24, hr⟩ := chk_e hr
    refine xiald hx hb hK hW (k := 10) (t := 27) rfl (by decide) (by decide) rfl (n := 8) hn24 (jx := (ix (((2 : Int32) * x1) + (1 : Int32)))) rfl dX11_isOff_24 ?_
    obtain ⟨r_3, hc25, hr⟩ := ob1_e hr
    refine xk_i (va_runS (As := [.int (gI M 10 (ix (((2 : Int32) * x1) + (1 : Int32))))]) (rest := []) ⟨hx, hb, hml, hown, hts⟩ (c_X11_size l D cA ad M (gI M 10 (ix (((2 : Int32) * x1) + (1 : Int32)))) hc25) (va_cwS 1 hts gX11_isOff_X11_size rfl rfl rfl (by decide +kernel) ⟨Nat.le_of_ble_eq_true rfl, Nat.le_of_ble_eq_true rfl⟩) (xpreS hK hW) rfl rfl hl.1 rfl (lv_room (Nat.le_of_ble_eq_true rfl)) dX11_isOff_25 ⟨Nat.le_of_ble_eq_true rfl, Nat.le_of_ble_eq_true rfl⟩) hW (fun H locs hW => ?_)
    refine lv_iload_n hx hb dX11_isOff_28 rfl (lv_at hl 2 rfl) ?_
    refine lv_icmp_le (tgt := 36) hx hb dX11_isOff_29 (by decide) (fun c1 => ?_) (fun c1 => ?_)
    · have hr := br_p c1 hr
      refine lv_iconst (v := (0 : Int32)) hx hb dX11_isOff_36 (by decide) ?_
      have e1 := Option.some.inj hr
      subst e1
      exact hj37_2 _ _ _ hW (lv_sub hl [0, 1] rfl)
    · have hr := br_n c1 hr
      refine lv_iconst (v := (1 : Int32)) hx hb dX11_isOff_32 (by decide) ?_
      refine lv_goto (tgt := 37) hx hb dX11_isOff_33 (by decide) ?_
      have e1 := Option.some.inj hr
      subst e1
      exact hj37_2 _ _ _ hW (lv_sub hl [0, 1] rfl)

set_option maxHeartbeats 4000000 in
set_option maxRecDepth 100000 in
theorem c_X11_weighted (l : Launch) (D : va_G) (cA : Nat → ClassId) (ad : Nat → Nat) (M : Mm) {r : Int64} (hr : f_X11_weighted M = some r) : Met l yX11_weighted wsX11_weighted ({ frames := 1, cells := 0, slots := 0, locals := 22 }) (PcX D false cA ad M [.ref (ad 0)]) (QlX false D false cA ad r M) 0 0 (AX false ad) := by
  refine Met.ofW (cc := cX11_weighted) (maxL := 6) (ret := (some .long)) (by decide) rfl ?_
  intro p e s m args below meth c s₁ B hml hv
  obtain ⟨hav, hP0, hK⟩ := hv
  have hx := B.exec
  have hb := B.bytes
  have hr0 := B.returns
  have hts := atoms_spec (ws := wsX11_weighted) B.pre
  have hown : s.vm.findClass RX11 = some m.cls := findClass_of_methodNamed B.named
  have hlocks := B.notSynchronized
  have hW := xstart hP0
  have hi11 : ∀ w ∈ wsX110, w ∈ wsX11_weighted := fun w h => List.mem_cons_of_mem _ (List.mem_append_right _ h)
  have hl := lv_entry ([.ref (ad 0)]) (n := 6) (Nat.le_of_ble_eq_true rfl)
  have hef := lg_entry_eq m ([.ref (ad 0)]) 6
  rw [← hav] at hef
  rw [hef]
  clear hef
  generalize (lg_sl ([.ref (ad 0)]) ++ List.replicate (6 - (lg_sl ([.ref (ad 0)])).length) Slot.unset).toArray = ls at hl ⊢
  have hl : lv_has ls 6 [(0, .ref (ad 0))] := hl
  clear hP0
  unfold f_X11_weighted at hr
  refine lv_lconst (v := (0 : Int64)) hx hb dX11_weighted_0 (by decide) ?_
  refine lv_lstore_n (lv' := [(1, .long (0 : Int64)), (0, .ref (ad 0))]) hx hb dX11_weighted_1 rfl hl (by decide) rfl (fun ls hl => ?_)
  refine lv_lconst (v := (0 : Int64)) hx hb dX11_weighted_2 (by decide) ?_
  refine lv_lstore_n (lv' := [(3, .long (0 : Int64)), (1, .long (0 : Int64)), (0, .ref (ad 0))]) hx hb dX11_weighted_3 rfl hl (by decide) rfl (fun ls hl => ?_)
  refine lv_iconst (v := (0 : Int32)) hx hb dX11_weighted_4 (by decide) ?_
  refine lv_istore (lv' := [(5, .int (0 : Int32)), (3, .long (0 : Int64)), (1, .long (0 : Int64)), (0, .ref (ad 0))]) hx hb dX11_weighted_5 hl (by decide) rfl (fun ls hl => ?_)
  have hL7_1 : ∀ (n : Nat) (x1_1 : Int64) (x3_2 : Int64) (x5_3 : Int32) (H : Heap) (locs : List Loc) (ls : Array Slot) (x1_4 : Int64) (x3_5 : Int64), Xw D false cA ad M (AX false ad) s.heap H locs → lv_has ls 6 [(0, .ref (ad 0)), (1, .long x1_1), (3, .long x3_2), (5, .int x5_3)] → f_X11_weighted_L7 M n x1_1 x3_2 x5_3 = some (x1_4, x3_5) → (∀ (H : Heap) (locs : List Loc) (ls : Array Slot), Xw D false cA ad M (AX false ad) s.heap H locs → lv_has ls 6 [(1, .long x1_4), (3, .long x3_5)] → W p l e (headSpec wsX11_weighted { frames := 1, cells := 0, slots := 0, locals := 22 }).room s m args below meth c H locs 0 0 (MQ below (QlX false D false cA ad r M) args s 0 0 (AX false ad)) (F0 m 83 ls [])) → W p l e (headSpec wsX11_weighted { frames := 1, cells := 0, slots := 0, locals := 22 }).room s m args below meth c H locs 0 0 (MQ below (QlX false D false cA ad r M) args s 0 0 (AX false ad)) (F0 m 7 ls []) := by
    intro n
    induction n with
    | zero =>
      intro x1_1 x3_2 x5_3 H locs ls x1_4 x3_5 hW hl hr hk
      exact absurd hr (by simp [f_X11_weighted_L7])
    | succ n ih =>
      intro x1_1 x3_2 x5_3 H locs ls x1_4 x3_5 hW hl hr hk
      rw [f_X11_weighted_L7] at hr
      refine lv_iload hx hb dX11_weighted_7 (lv_at hl 3 rfl) ?_
      refine lv_aload_n hx hb dX11_weighted_9 rfl (lv_at hl 0 rfl) ?_
      refine g11_0 hx hb hts hi11 hown hK hW (k := 0) rfl (hts _ (wm 1 rfl)) dX11_weighted_10 ?_
      refine lv_bipush (v := (64 : Int32)) hx hb dX11_weighted_13 (by decide) ?_
      refine xiald hx hb hK hW (k := 1) (t := 24) rfl (by decide) (by decide) rfl (n := 159) (by decide) (jx := 64) (by decide) dX11_weighted_15 ?_
      refine lv_icmp_ge (tgt := 83) hx hb dX11_weighted_16 (by decide) (fun c1 => ?_) (fun c1 => ?_)
      · have hr := br_p c1 hr
        obtain ⟨e1, e2⟩ := Prod.mk.inj (Option.some.inj hr)
        subst e1
        subst e2
        exact hk _ _ _ hW (lv_sub hl [1, 2] rfl)
      · have hr := br_n c1 hr
        refine lv_lload_n hx hb dX11_weighted_19 rfl (lv_at hl 1 rfl) ?_
        refine lv_aload_n hx hb dX11_weighted_20 rfl (lv_at hl 0 rfl) ?_
        refine g11_14 hx hb hts hi11 hown hK hW (k := 0) rfl (hts _ (wm 2 rfl)) dX11_weighted_21 ?_
        refine lv_iload hx hb dX11_weighted_24 (lv_at hl 3 rfl) ?_
        obtain ⟨hn26, hr⟩ := chk_e hr
        refine xzald hx hb hK hW (k := 13) (t := 30) rfl (by decide) (by decide) rfl (n := 4) hn26 (jx := (ix x5_3)) rfl dX11_weighted_26 ?_
        obtain ⟨y_6, hr, hr3⟩ := ob1_e hr
        have hj50_6 : ∀ (H : Heap) (locs : List Loc) (ls : Array Slot), Xw D false cA ad M (AX false ad) s.heap H locs → lv_has ls 6 [(0, .ref (ad 0)), (3, .long x3_2), (5, .int x5_3)] → W p l e (headSpec wsX11_weighted { frames := 1, cells := 0, slots := 0, locals := 22 }).room s m args below meth c H locs 0 0 (MQ below (QlX false D false cA ad r M) args s 0 0 (AX false ad)) (F0 m 50 ls [.long y_6, .long x1_1]) := by
          intro H locs ls hW hl
          have hr := hr3
          refine lv_ladd hx hb dX11_weighted_50 ?_
          obtain ⟨x1_8, ex1_8, hr⟩ := lt1_e hr
          rw [← ex1_8]
          refine lv_lstore_n (lv' := [(1, .long x1_8), (0, .ref (ad 0)), (3, .long x3_2), (5, .int x5_3)]) hx hb dX11_weighted_51 rfl hl (by decide) rfl (fun ls hl => ?_)
          refine lv_lload_n hx hb dX11_weighted_52 rfl (lv_at hl 2 rfl) ?_
          refine lv_aload_n hx hb dX11_weighted_53 rfl (lv_at hl 1 rfl) ?_
          refine g11_14 hx hb hts hi11 hown hK hW (k := 0) rfl (hts _ (wm 2 rfl)) dX11_weighted_54 ?_
          refine lv_iload hx hb dX11_weighted_57 (lv_at hl 3 rfl) ?_
          obtain ⟨hn59, hr⟩ := chk_e hr
          refine xzald hx hb hK hW (k := 13) (t := 30) rfl (by decide) (by decide) rfl (n := 4) hn59 (jx := (ix x5_3)) rfl dX11_weighted_59 ?_
          obtain ⟨y_9, hr, hr3⟩ := ob1_e hr
          have hj75_9 : ∀ (H : Heap) (locs : List Loc) (ls : Array Slot), Xw D false cA ad M (AX false ad) s.heap H locs → lv_has ls 6 [(1, .long x1_8), (0, .ref (ad 0)), (5, .int x5_3)] → W p l e (headSpec wsX11_weighted { frames := 1, cells := 0, slots := 0, locals := 22 }).room s m args below meth c H locs 0 0 (MQ below (QlX false D false cA ad r M) args s 0 0 (AX false ad)) (F0 m 75 ls [.long y_9, .long x3_2]) := by
            intro H locs ls hW hl
            have hr := hr3
            refine lv_ladd hx hb dX11_weighted_75 ?_
            obtain ⟨x3_11, ex3_11, hr⟩ := lt1_e hr
            rw [← ex3_11]
            refine lv_lstore_n (lv' := [(3, .long x3_11), (1, .long x1_8), (0, .ref (ad 0)), (5, .int x5_3)]) hx hb dX11_weighted_76 rfl hl (by decide) rfl (fun ls hl => ?_)
            obtain ⟨x5_12, ex5_12, hr⟩ := lt1_e hr
            refine lv_iinc (v := x5_12) (lv' := [(5, .int x5_12), (3, .long x3_11), (1, .long x1_8), (0, .ref (ad 0))]) hx hb dX11_weighted_77 hl (k := 3) rfl (by rw [ex5_12]; rfl) (by decide) rfl (fun ls hl => ?_)
            refine lv_goto (tgt := 7) hx hb dX11_weighted_80 (by decide) ?_
            exact ih x1_8 x3_11 x5_12 _ _ _ _ _ hW (lv_sub hl [3, 2, 1, 0] rfl) hr hk
          clear hr3
          refine lv_if_eq (tgt := 74) hx hb dX11_weighted_60 (by decide) (fun c1 => ?_) (fun c1 => ?_)
          · have hr := br_p c1 hr
            refine lv_lconst (v := (0 : Int64)) hx hb dX11_weighted_74 (by decide) ?_
            have e1 := Option.some.inj hr
            subst e1
            exact hj75_9 _ _ _ hW (lv_sub hl [0, 1, 3] rfl)
          · have hr := br_n c1 hr
            refine lv_aload_n hx hb dX11_weighted_63 rfl (lv_at hl 1 rfl) ?_
            refine lv_iload hx hb dX11_weighted_64 (lv_at hl 3 rfl) ?_
            refine lv_iconst (v := (2 : Int32)) hx hb dX11_weighted_66 (by decide) ?_
            obtain ⟨r_10, hc67, hr⟩ := ob1_e hr
            refine xk_i (va_runV (As := [.int x5_3, .int (2 : Int32)]) (rest := [.long x3_2]) ⟨hx, hb, hml, hown, hts⟩ (c_X11_of l D cA ad M x5_3 (2 : Int32) hc67) (cwV 2 hts gX11_weighted_X11_of rfl rfl rfl (by decide +kernel) ⟨Nat.le_of_ble_eq_true rfl, Nat.le_of_ble_eq_true rfl⟩) (xpreV hK hW (k := 0) rfl (by decide) rfl) rfl rfl hl.1 rfl (lv_room (Nat.le_of_ble_eq_true rfl)) dX11_weighted_67 ⟨Nat.le_of_ble_eq_true rfl, Nat.le_of_ble_eq_true rfl⟩) hW (fun H locs hW => ?_)
            refine lv_i2l hx hb dX11_weighted_70 rfl ?_
            refine lv_goto (tgt := 75) hx hb dX11_weighted_71 (by decide) ?_
            have e1 := Option.some.inj hr
            subst e1
            exact hj75_9 _ _ _ hW (lv_sub hl [0, 1, 3] rfl)
        clear hr3
        refine lv_if_eq (tgt := 49) hx hb dX11_weighted_27 (by decide) (fun c1 => ?_) (fun c1 => ?_)
        · have hr := br_p c1 hr
          refine lv_lconst (v := (0 : Int64)) hx hb dX11_weighted_49 (by decide) ?_
          have e1 := Option.some.inj hr
          subst e1
          exact hj50_6 _ _ _ hW (lv_sub hl [0, 2, 3] rfl)
        · have hr := br_n c1 hr
          refine lv_aload_n hx hb dX11_weighted_30 rfl (lv_at hl 0 rfl) ?_
          refine g11_13 hx hb hts hi11 hown hK hW (k := 0) rfl (hts _ (wm 3 rfl)) dX11_weighted_31 ?_
          refine lv_iload hx hb dX11_weighted_34 (lv_at hl 3 rfl) ?_
          obtain ⟨hn36, hr⟩ := chk_e hr
          refine xlald hx hb hK hW (k := 12) (t := 43) rfl (by decide) (by decide) rfl (n := 4) hn36 (jx := (ix x5_3)) rfl dX11_weighted_36 ?_
          refine lv_aload_n hx hb dX11_weighted_37 rfl (lv_at hl 0 rfl) ?_
          refine lv_iload hx hb dX11_weighted_38 (lv_at hl 3 rfl) ?_
          refine lv_iconst (v := (2 : Int32)) hx hb dX11_weighted_40 (by decide) ?_
          obtain ⟨r_7, hc41, hr⟩ := ob1_e hr
          refine xk_i (va_runV (As := [.int x5_3, .int (2 : Int32)]) (rest := [.long (gJ M 12 (ix x5_3)), .long x1_1]) ⟨hx, hb, hml, hown, hts⟩ (c_X11_of l D cA ad M x5_3 (2 : Int32) hc41) (cwV 2 hts gX11_weighted_X11_of rfl rfl rfl (by decide +kernel) ⟨Nat.le_of_ble_eq_true rfl, Nat.le_of_ble_eq_true rfl⟩) (xpreV hK hW (k := 0) rfl (by decide) rfl) rfl rfl hl.1 rfl (lv_room (Nat.le_of_ble_eq_true rfl)) dX11_weighted_41 ⟨Nat.le_of_ble_eq_true rfl, Nat.le_of_ble_eq_true rfl⟩) hW (fun H locs hW => ?_)
          refine lv_i2l hx hb dX11_weighted_44 rfl ?_
          refine lv_lmul hx hb dX11_weighted_45 ?_
          refine lv_goto (tgt := 50) hx hb dX11_weighted_46 (by decide) ?_
          have e1 := Option.some.inj hr
          subst e1
          exact hj50_6 _ _ _ hW (lv_sub hl [0, 2, 3] rfl)
  obtain ⟨x1_4, x3_5, hr, hr3⟩ := ob2_e hr
  refine hL7_1 1000 (0 : Int64) (0 : Int64) (0 : Int32) _ _ _ x1_4 x3_5 hW (lv_sub hl [3, 2, 1, 0] rfl) hr (fun H locs ls hW hl => ?_)
  clear hr
  have hr := hr3
  refine lv_lload_n hx hb dX11_weighted_83 rfl (lv_at hl 0 rfl) ?_
  refine lv_lload_n hx hb dX11_weighted_84 rfl (lv_at hl 1 rfl) ?_
  obtain ⟨hc85, hr⟩ := chk_e hr
  refine lv_ldiv hx hb dX11_weighted_85 (of_decide_eq_true hc85) ?_
  rw [← Option.some.inj hr]
  exact xlret hx hb hr0 hlocks hW adR_rf dX11_weighted_86

set_option maxHeartbeats 4000000 in
set_option maxRecDepth 100000 in
theorem c_X11_worksOut (l : Launch) (D : va_G) (cA : Nat → ClassId) (ad : Nat → Nat) (M : Mm) (x1 : Int32) {r : Int32} {M' : Mm} (hr : f_X11_worksOut x1 M = some (r, M')) : Met l yX11_worksOut wsX11_worksOut ({ frames := 3, cells := 0, slots := 0, locals := 73 }) (PcX D false cA ad M [.ref (ad 0), .int x1]) (QiX false D false cA ad r M') 0 0 (AX false ad) := by
  refine Met.ofW (cc := cX11_worksOut) (maxL := 5) (ret := (some .boolean)) (by decide) rfl ?_
  intro p e s m args below meth c s₁ B hml hv
  obtain ⟨hav, hP0, hK⟩ := hv
  have hx := B.exec
  have hb := B.bytes
  have hr0 := B.returns
  have hts := atoms_spec (ws := wsX11_worksOut) B.pre
  have hown : s.vm.findClass RX11 = some m.cls := findClass_of_methodNamed B.named
  have hlocks := B.notSynchronized
  have hW := xstart hP0
  have hi11 : ∀ w ∈ wsX110, w ∈ wsX11_worksOut := fun w h => List.mem_cons_of_mem _ (List.mem_append_right _ h)
  have hl := lv_entry ([.ref (ad 0), .int x1]) (n := 5) (Nat.le_of_ble_eq_true rfl)
  have hef := lg_entry_eq m ([.ref (ad 0), .int x1]) 5
  rw [← hav] at hef
  rw [hef]
  clear hef
  generalize (lg_sl ([.ref (ad 0), .int x1]) ++ List.replicate (5 - (lg_sl ([.ref (ad 0), .int x1])).length) Slot.unset).toArray = ls at hl ⊢
  have hl : lv_has ls 5 [(0, .ref (ad 0)), (1, .int x1)] := hl
  clear hP0
  unfold f_X11_worksOut at hr
  refine lv_aload_n hx hb dX11_worksOut_0 rfl (lv_at hl 0 rfl) ?_
  refine lv_iconst (v := (0 : Int32)) hx hb dX11_worksOut_1 (by decide) ?_
  obtain ⟨M_1, eM_1, hr⟩ := lt1_e hr
  refine p11_15 hx hb hts hi11 hown hK hW (k := 0) rfl (hts _ (wm 1 rfl)) dX11_worksOut_2 (fun H locs hW => ?_)
  rw [← eM_1] at hW
  refine lv_aload_n hx hb dX11_worksOut_5 rfl (lv_at hl 0 rfl) ?_
  refine lv_iconst (v := (0 : Int32)) hx hb dX11_worksOut_6 (by decide) ?_
  obtain ⟨M_2, eM_2, hr⟩ := lt1_e hr
  refine p11_16 hx hb hts hi11 hown hK hW (k := 0) rfl (hts _ (wm 2 rfl)) dX11_worksOut_7 (fun H locs hW => ?_)
  rw [← eM_2] at hW
  refine lv_aload_n hx hb dX11_worksOut_10 rfl (lv_at hl 0 rfl) ?_
  refine lv_iconst (v := (0 : Int32)) hx hb dX11_worksOut_11 (by decide) ?_
  obtain ⟨M_3, eM_3, hr⟩ := lt1_e hr
  refine p11_17 hx hb hts hi11 hown hK hW (k := 0) rfl (hts _ (wm 3 rfl)) dX11_worksOut_12 (fun H locs hW => ?_)
  rw [← eM_3] at hW
  refine lv_aload_n hx hb dX11_worksOut_15 rfl (lv_at hl 0 rfl) ?_
  refine lv_iconst (v := (0 : Int32)) hx hb dX11_worksOut_16 (by decide) ?_
  obtain ⟨M_4, eM_4, hr⟩ := lt1_e hr
  refine p11_18 hx hb hts hi11 hown hK hW (k := 0) rfl (hts _ (wm 4 rfl)) dX11_worksOut_17 (fun H locs hW => ?_)
  rw [← eM_4] at hW
  refine lv_aload_n hx hb dX11_worksOut_20 rfl (lv_at hl 0 rfl) ?_
  obtain ⟨M_5, hc21, hr⟩ := ob1_e hr
  refine xk_v (va_runV (As := []) (rest := []) ⟨hx, hb, hml, hown, hts⟩ (c_X11_takeShifts l D cA ad M_4 hc21) (cwV 0 hts gX11_worksOut_X11_takeShifts rfl rfl rfl (by decide +kernel) ⟨Nat.le_of_ble_eq_true rfl, Nat.le_of_ble_eq_true rfl⟩) (xpreV hK hW (k := 0) rfl (by decide) rfl) rfl rfl hl.1 rfl (lv_room (Nat.le_of_ble_eq_true rfl)) dX11_worksOut_21 ⟨Nat.le_of_ble_eq_true rfl, Nat.le_of_ble_eq_true rfl⟩) hW (fun H locs hW => ?_)
  refine lv_aload_n hx hb dX11_worksOut_24 rfl (lv_at hl 0 rfl) ?_
  refine lv_iconst (v := (0 : Int32)) hx hb dX11_worksOut_25 (by decide) ?_
  obtain ⟨M_6, hc26, hr⟩ := ob1_e hr
  refine xk_v (va_runV (As := [.int (0 : Int32)]) (rest := []) ⟨hx, hb, hml, hown, hts⟩ (c_X11_vote l D cA ad M_5 (0 : Int32) hc26) (cwV 1 hts gX11_worksOut_X11_vote rfl rfl rfl (by decide +kernel) ⟨Nat.le_of_ble_eq_true rfl, Nat.le_of_ble_eq_true rfl⟩) (xpreV hK hW (k := 0) rfl (by decide) rfl) rfl rfl hl.1 rfl (lv_room (Nat.le_of_ble_eq_true rfl)) dX11_worksOut_26 ⟨Nat.le_of_ble_eq_true rfl, Nat.le_of_ble_eq_true rfl⟩) hW (fun H locs hW => ?_)
  refine lv_aload_n hx hb dX11_worksOut_29 rfl (lv_at hl 0 rfl) ?_
  refine lv_iconst (v := (1 : Int32)) hx hb dX11_worksOut_30 (by decide) ?_
  obtain ⟨M_7, hc31, hr⟩ := ob1_e hr
  refine xk_v (va_runV (As := [.int (1 : Int32)]) (rest := []) ⟨hx, hb, hml, hown, hts⟩ (c_X11_vote l D cA ad M_6 (1 : Int32) hc31) (cwV 1 hts gX11_worksOut_X11_vote rfl rfl rfl (by decide +kernel) ⟨Nat.le_of_ble_eq_true rfl, Nat.le_of_ble_eq_true rfl⟩) (xpreV hK hW (k := 0) rfl (by decide) rfl) rfl rfl hl.1 rfl (lv_room (Nat.le_of_ble_eq_true rfl)) dX11_worksOut_31 ⟨Nat.le_of_ble_eq_true rfl, Nat.le_of_ble_eq_true rfl⟩) hW (fun H locs hW => ?_)
  refine lv_iconst (v := (0 : Int32)) hx hb dX11_worksOut_34 (by decide) ?_
  refine lv_istore_n (lv' := [(2, .int (0 : Int32)), (0, .ref (ad 0)), (1, .int x1)]) hx hb dX11_worksOut_35 rfl hl (by decide) rfl (fun ls hl => ?_)
  have hL36_1 : ∀ (n : Nat) (x2_8 : Int32) (M_9 : Mm) (H : Heap) (locs : List Loc) (ls : Array Slot) (M_10 : Mm), Xw D false cA ad M_9 (AX false ad) s.heap H locs → lv_has ls 5 [(0, .ref (ad 0)), (1, .int x1), (2, .int x2_8)] → f_X11_worksOut_L36 x1 n x2_8 M_9 = some M_10 → (∀ (H : Heap) (locs : List Loc) (ls : Array Slot), Xw D false cA ad M_10 (AX false ad) s.heap H locs → lv_has ls 5 [(0, .ref (ad 0))] → W p l e (headSpec wsX11_worksOut { frames := 3, cells := 0, slots := 0, locals := 73 }).room s m args below meth c H locs 0 0 (MQ below (QiX false D false cA ad r M') args s 0 0 (AX false ad)) (F0 m 223 ls [])) → W p l e (headSpec wsX11_worksOut { frames := 3, cells := 0, slots := 0, locals := 73 }).room s m args below meth c H locs 0 0 (MQ below (QiX false D false cA ad r M') args s 0 0 (AX false ad)) (F0 m 36 ls []) := by
    intro n
    induction n with
    | zero =>
      intro x2_8 M_9 H locs ls M_10 hW hl hr hk
      exact absurd hr (by simp [f_X11_worksOut_L36])
    | succ n ih =>
      intro x2_8 M_9 H locs ls M_10 hW hl hr hk
      rw [f_X11_worksOut_L36] at hr
      refine lv_iload_n hx hb dX11_worksOut_36 rfl (lv_at hl 2 rfl) ?_
      refine lv_aload_n hx hb dX11_worksOut_37 rfl (lv_at hl 0 rfl) ?_
      refine g11_0 hx hb hts hi11 hown hK hW (k := 0) rfl (hts _ (wm 5 rfl)) dX11_worksOut_38 ?_
      refine lv_bipush (v := (64 : Int32)) hx hb dX11_worksOut_41 (by decide) ?_
      refine xiald hx hb hK hW (k := 1) (t := 24) rfl (by decide) (by decide) rfl (n := 159) (by decide) (jx := 64) (by decide) dX11_worksOut_43 ?_
      refine lv_icmp_ge (tgt := 223) hx hb dX11_worksOut_44 (by decide) (fun c1 => ?_) (fun c1 => ?_)
      · have hr := br_p c1 hr
        have e1 := Option.some.inj hr
        subst e1
        exact hk _ _ _ hW (lv_sub hl [0] rfl)
      · have hr := br_n c1 hr
        refine lv_aload_n hx hb dX11_worksOut_47 rfl (lv_at hl 0 rfl) ?_
        refine g11_14 hx hb hts hi11 hown hK hW (k := 0) rfl (hts _ (wm 6 rfl)) dX11_worksOut_48 ?_
        refine lv_iload_n hx hb dX11_worksOut_51 rfl (lv_at hl 2 rfl) ?_
        refine lv_iconst (v := (0 : Int32)) hx hb dX11_worksOut_52 (by decide) ?_
        obtain ⟨hn53, hr⟩ := chk_e hr
        obtain ⟨M_11, eM_11, hr⟩ := lt1_e hr
        refine xzast hx hb hK hW (k := 13) (t := 30) rfl (by decide) (by decide) rfl (n := 4) hn53 (jx := (ix x2_8)) rfl (by decide) dX11_worksOut_53 (fun H locs hW => ?_)
        rw [← eM_11] at hW
        refine lv_aload_n hx hb dX11_worksOut_54 rfl (lv_at hl 0 rfl) ?_
        refine g11_10 hx hb hts hi11 hown hK hW (k := 0) rfl (hts _ (wm 7 rfl)) dX11_worksOut_55 ?_
        refine lv_iload_n hx hb dX11_worksOut_58 rfl (lv_at hl 2 rfl) ?_
        obtain ⟨hn59, hr⟩ := chk_e hr
        refine xiald hx hb hK hW (k := 9) (t := 20) rfl (by decide) (by decide) rfl (n := 4) hn59 (jx := (ix x2_8)) rfl dX11_worksOut_59 ?_
        refine lv_iconst (v := (4 : Int32)) hx hb dX11_worksOut_60 (by decide) ?_
        obtain ⟨M_12, hr, hr3⟩ := ob1_e hr
        have hj174_12 : ∀ (H : Heap) (locs : List Loc) (ls : Array Slot), Xw D false cA ad M_12 (AX false ad) s.heap H locs → lv_has ls 5 [(0, .ref (ad 0)), (1, .int x1), (2, .int x2_8)] → W p l e (headSpec wsX11_worksOut { frames := 3, cells := 0, slots := 0, locals := 73 }).room s m args below meth c H locs 0 0 (MQ below (QiX false D false cA ad r M') args s 0 0 (AX false ad)) (F0 m 174 ls []) := by
          intro H locs ls hW hl
          have hr := hr3
          refine lv_aload_n hx hb dX11_worksOut_174 rfl (lv_at hl 0 rfl) ?_
          refine g11_10 hx hb hts hi11 hown hK hW (k := 0) rfl (hts _ (wm 7 rfl)) dX11_worksOut_175 ?_
          refine lv_iload_n hx hb dX11_worksOut_178 rfl (lv_at hl 2 rfl) ?_
          obtain ⟨hn179, hr⟩ := chk_e hr
          refine xiald hx hb hK hW (k := 9) (t := 20) rfl (by decide) (by decide) rfl (n := 4) hn179 (jx := (ix x2_8)) rfl dX11_worksOut_179 ?_
          refine lv_iconst (v := (3 : Int32)) hx hb dX11_worksOut_180 (by decide) ?_
          obtain ⟨M_21, hr, hr3⟩ := ob1_e hr
          have hj217_21 : ∀ (H : Heap) (locs : List Loc) (ls : Array Slot), Xw D false cA ad M_21 (AX false ad) s.heap H locs → lv_has ls 5 [(0, .ref (ad 0)), (1, .int x1), (2, .int x2_8)] → W p l e (headSpec wsX11_worksOut { frames := 3, cells := 0, slots := 0, locals := 73 }).room s m args below meth c H locs 0 0 (MQ below (QiX false D false cA ad r M') args s 0 0 (AX false ad)) (F0 m 217 ls []) := by
            intro H locs ls hW hl
            have hr := hr3
            obtain ⟨x2_27, ex2_27, hr⟩ := lt1_e hr
            refine lv_iinc (v := x2_27) (lv' := [(2, .int x2_27), (0, .ref (ad 0)), (1, .int x1)]) hx hb dX11_worksOut_217 hl (k := 2) rfl (by rw [ex2_27]; rfl) (by decide) rfl (fun ls hl => ?_)
            refine lv_goto (tgt := 36) hx hb dX11_worksOut_220 (by decide) ?_
            exact ih x2_27 M_21 _ _ _ _ hW (lv_sub hl [1, 2, 0] rfl) hr hk
          clear hr3
          refine lv_icmp_lt (tgt := 217) hx hb dX11_worksOut_181 (by decide) (fun c1 => ?_) (fun c1 => ?_)
          · have hr := br_p c1 hr
            have e1 := Option.some.inj hr
            subst e1
            exact hj217_21 _ _ _ hW (lv_sub hl [0, 1, 2] rfl)
          · have hr := br_n c1 hr
            refine lv_aload_n hx hb dX11_worksOut_184 rfl (lv_at hl 0 rfl) ?_
            refine g11_13 hx hb hts hi11 hown hK hW (k := 0) rfl (hts _ (wm 9 rfl)) dX11_worksOut_185 ?_
            refine lv_iload_n hx hb dX11_worksOut_188 rfl (lv_at hl 2 rfl) ?_
            refine lv_aload_n hx hb dX11_worksOut_189 rfl (lv_at hl 0 rfl) ?_
            refine lv_iload_n hx hb dX11_worksOut_190 rfl (lv_at hl 2 rfl) ?_
            refine lv_aload_n hx hb dX11_worksOut_191 rfl (lv_at hl 0 rfl) ?_
            refine lv_iload_n hx hb dX11_worksOut_192 rfl (lv_at hl 2 rfl) ?_
            refine lv_iconst (v := (0 : Int32)) hx hb dX11_worksOut_193 (by decide) ?_
            obtain ⟨r_22, hc194, hr⟩ := ob1_e hr
            refine xk_l (va_runV (As := [.int x2_8, .int (0 : Int32)]) (rest := [.int x2_8, .ref (ad 0), .int x2_8, .ref (ad 12)]) ⟨hx, hb, hml, hown, hts⟩ (c_X11_timeOf l D cA ad M_12 x2_8 (0 : Int32) hc194) (cwV 2 hts gX11_worksOut_X11_timeOf rfl rfl rfl (by decide +kernel) ⟨Nat.le_of_ble_eq_true rfl, Nat.le_of_ble_eq_true rfl⟩) (xpreV hK hW (k := 0) rfl (by decide) rfl) rfl rfl hl.1 rfl (lv_room (Nat.le_of_ble_eq_true rfl)) dX11_worksOut_194 ⟨Nat.le_of_ble_eq_true rfl, Nat.le_of_ble_eq_true rfl⟩) hW (fun H locs hW => ?_)
            refine lv_l2i hx hb dX11_worksOut_197 rfl ?_
            refine lv_aload_n hx hb dX11_worksOut_198 rfl (lv_at hl 0 rfl) ?_
            refine lv_iload_n hx hb dX11_worksOut_199 rfl (lv_at hl 2 rfl) ?_
            refine lv_iconst (v := (1 : Int32)) hx hb dX11_worksOut_200 (by decide) ?_
            obtain ⟨r_23, hc201, hr⟩ := ob1_e hr
            refine xk_l (va_runV (As := [.int x2_8, .int (1 : Int32)]) (rest := [.int (Int64.toInt32 r_22), .int x2_8, .ref (ad 0), .int x2_8, .ref (ad 12)]) ⟨hx, hb, hml, hown, hts⟩ (c_X11_timeOf l D cA ad M_12 x2_8 (1 : Int32) hc201) (cwV 2 hts gX11_worksOut_X11_timeOf rfl rfl rfl (by decide +kernel) ⟨Nat.le_of_ble_eq_true rfl, Nat.le_of_ble_eq_true rfl⟩) (xpreV hK hW (k := 0) rfl (by decide) rfl) rfl rfl hl.1 rfl (lv_room (Nat.le_of_ble_eq_true rfl)) dX11_worksOut_201 ⟨Nat.le_of_ble_eq_true rfl, Nat.le_of_ble_eq_true rfl⟩) hW (fun H locs hW => ?_)
            refine lv_l2i hx hb dX11_worksOut_204 rfl ?_
            obtain ⟨r_24, hc205, hr⟩ := ob1_e hr
            refine xk_i (va_runV (As := [.int x2_8, .int (Int64.toInt32 r_22), .int (Int64.toInt32 r_23)]) (rest := [.int x2_8, .ref (ad 12)]) ⟨hx, hb, hml, hown, hts⟩ (c_X11_velocityOf l D cA ad M_12 x2_8 (Int64.toInt32 r_22) (Int64.toInt32 r_23) hc205) (cwV 3 hts gX11_worksOut_X11_velocityOf rfl rfl rfl (by decide +kernel) ⟨Nat.le_of_ble_eq_true rfl, Nat.le_of_ble_eq_true rfl⟩) (xpreV hK hW (k := 0) rfl (by decide) rfl) rfl rfl hl.1 rfl (lv_room (Nat.le_of_ble_eq_true rfl)) dX11_worksOut_205 ⟨Nat.le_of_ble_eq_true rfl, Nat.le_of_ble_eq_true rfl⟩) hW (fun H locs hW => ?_)
            refine lv_i2l hx hb dX11_worksOut_208 rfl ?_
            obtain ⟨hn209, hr⟩ := chk_e hr
            obtain ⟨M_25, eM_25, hr⟩ := lt1_e hr
            refine xlast hx hb hK hW (k := 12) (t := 43) rfl (by decide) (by decide) rfl (n := 4) hn209 (jx := (ix x2_8)) rfl dX11_worksOut_209 (fun H locs hW => ?_)
            rw [← eM_25] at hW
            refine lv_aload_n hx hb dX11_worksOut_210 rfl (lv_at hl 0 rfl) ?_
            refine g11_14 hx hb hts hi11 hown hK hW (k := 0) rfl (hts _ (wm 6 rfl)) dX11_worksOut_211 ?_
            refine lv_iload_n hx hb dX11_worksOut_214 rfl (lv_at hl 2 rfl) ?_
            refine lv_iconst (v := (1 : Int32)) hx hb dX11_worksOut_215 (by decide) ?_
            obtain ⟨hn216, hr⟩ := chk_e hr
            obtain ⟨M_26, eM_26, hr⟩ := lt1_e hr
            refine xzast hx hb hK hW (k := 13) (t := 30) rfl (by decide) (by decide) rfl (n := 4) hn216 (jx := (ix x2_8)) rfl (by decide) dX11_worksOut_216 (fun H locs hW => ?_)
            rw [← eM_26] at hW
            have e1 := Option.some.inj hr
            subst e1
            exact hj217_21 _ _ _ hW (lv_sub hl [0, 1, 2] rfl)
        clear hr3
        refine lv_icmp_ne (tgt := 174) hx hb dX11_worksOut_61 (by decide) (fun c1 => ?_) (fun c1 => ?_)
        · have hr := br_n c1 hr
          have e1 := Option.some.inj hr
          subst e1
          exact hj174_12 _ _ _ hW (lv_sub hl [0, 1, 2] rfl)
        · have hr := br_p c1 hr
          refine lv_aload_n hx hb dX11_worksOut_64 rfl (lv_at hl 0 rfl) ?_
          refine g11_11 hx hb hts hi11 hown hK hW (k := 0) rfl (hts _ (wm 8 rfl)) dX11_worksOut_65 ?_
          refine lv_iconst (v := (2 : Int32)) hx hb dX11_worksOut_68 (by decide) ?_
          refine lv_iload_n hx hb dX11_worksOut_69 rfl (lv_at hl 2 rfl) ?_
          refine lv_imul hx hb dX11_worksOut_70 ?_
          obtain ⟨hn71, hr⟩ := chk_e hr
          refine xiald hx hb hK hW (k := 10) (t := 27) rfl (by decide) (by decide) rfl (n := 8) hn71 (jx := (ix ((2 : Int32) * x2_8))) rfl dX11_worksOut_71 ?_
          obtain ⟨y_13, hr, hr3⟩ := ob1_e hr
          have hj93_13 : ∀ (H : Heap) (locs : List Loc) (ls : Array Slot), Xw D false cA ad M_11 (AX false ad) s.heap H locs → lv_has ls 5 [(0, .ref (ad 0)), (1, .int x1), (2, .int x2_8)] → W p l e (headSpec wsX11_worksOut { frames := 3, cells := 0, slots := 0, locals := 73 }).room s m args below meth c H locs 0 0 (MQ below (QiX false D false cA ad r M') args s 0 0 (AX false ad)) (F0 m 93 ls [.int y_13]) := by
            intro H locs ls hW hl
            have hr := hr3
            refine lv_istore_n (lv' := [(3, .int y_13), (0, .ref (ad 0)), (1, .int x1), (2, .int x2_8)]) hx hb dX11_worksOut_93 rfl hl (by decide) rfl (fun ls hl => ?_)
            refine lv_aload_n hx hb dX11_worksOut_94 rfl (lv_at hl 1 rfl) ?_
            refine g11_10 hx hb hts hi11 hown hK hW (k := 0) rfl (hts _ (wm 7 rfl)) dX11_worksOut_95 ?_
            refine lv_iload_n hx hb dX11_worksOut_98 rfl (lv_at hl 3 rfl) ?_
            refine lv_aload_n hx hb dX11_worksOut_99 rfl (lv_at hl 1 rfl) ?_
            refine lv_iload_n hx hb dX11_worksOut_100 rfl (lv_at hl 3 rfl) ?_
            refine lv_iload_n hx hb dX11_worksOut_101 rfl (lv_at hl 2 rfl) ?_
            obtain ⟨r_14, hc102, hr⟩ := ob1_e hr
            refine xk_i (va_runV (As := [.int x2_8, .int x1]) (rest := [.int x2_8, .ref (ad 9)]) ⟨hx, hb, hml, hown, hts⟩ (c_X11_isOff l D cA ad M_11 x2_8 x1 hc102) (cwV 2 hts gX11_worksOut_X11_isOff rfl rfl rfl (by decide +kernel) ⟨Nat.le_of_ble_eq_true rfl, Nat.le_of_ble_eq_true rfl⟩) (xpreV hK hW (k := 0) rfl (by decide) rfl) rfl rfl hl.1 rfl (lv_room (Nat.le_of_ble_eq_true rfl)) dX11_worksOut_102 ⟨Nat.le_of_ble_eq_true rfl, Nat.le_of_ble_eq_true rfl⟩) hW (fun H locs hW => ?_)
            obtain ⟨y_15, hr, hr3⟩ := ob1_e hr
            have hj121_15 : ∀ (H : Heap) (locs : List Loc) (ls : Array Slot), Xw D false cA ad M_11 (AX false ad) s.heap H locs → lv_has ls 5 [(0, .ref (ad 0)), (1, .int x1), (2, .int x2_8)] → W p l e (headSpec wsX11_worksOut { frames := 3, cells := 0, slots := 0, locals := 73 }).room s m args below meth c H locs 0 0 (MQ below (QiX false D false cA ad r M') args s 0 0 (AX false ad)) (F0 m 121 ls [.int y_15, .int x2_8, .ref (ad 9)]) := by
              intro H locs ls hW hl
              have hr := hr3
              obtain ⟨hn121, hr⟩ := chk_e hr
              obtain ⟨M_16, eM_16, hr⟩ := lt1_e hr
              refine xiast hx hb hK hW (k := 9) (t := 20) rfl (by decide) (by decide) rfl (n := 4) hn121 (jx := (ix x2_8)) rfl dX11_worksOut_121 (fun H locs hW => ?_)
              rw [← eM_16] at hW
              refine lv_aload_n hx hb dX11_worksOut_122 rfl (lv_at hl 0 rfl) ?_
              refine lv_dup hx hb dX11_worksOut_123 rfl ?_
              refine g11_16 hx hb hts hi11 hown hK hW (k := 0) rfl (hts _ (wm 2 rfl)) dX11_worksOut_124 ?_
              refine lv_aload_n hx hb dX11_worksOut_127 rfl (lv_at hl 0 rfl) ?_
              refine g11_10 hx hb hts hi11 hown hK hW (k := 0) rfl (hts _ (wm 7 rfl)) dX11_worksOut_128 ?_
              refine lv_iload_n hx hb dX11_worksOut_131 rfl (lv_at hl 2 rfl) ?_
              obtain ⟨hn132, hr⟩ := chk_e hr
              refine xiald hx hb hK hW (k := 9) (t := 20) rfl (by decide) (by decide) rfl (n := 4) hn132 (jx := (ix x2_8)) rfl dX11_worksOut_132 ?_
              refine lv_iconst (v := (3 : Int32)) hx hb dX11_worksOut_133 (by decide) ?_
              obtain ⟨y_17, hr, hr3⟩ := ob1_e hr
              have hj144_17 : ∀ (H : Heap) (locs : List Loc) (ls : Array Slot), Xw D false cA ad M_16 (AX false ad) s.heap H locs → lv_has ls 5 [(0, .ref (ad 0)), (1, .int x1), (2, .int x2_8)] → W p l e (headSpec wsX11_worksOut { frames := 3, cells := 0, slots := 0, locals := 73 }).room s m args below meth c H locs 0 0 (MQ below (QiX false D false cA ad r M') args s 0 0 (AX false ad)) (F0 m 144 ls [.int y_17, .int (gI M_16 0 16), .ref (ad 0)]) := by
                intro H locs ls hW hl
                have hr := hr3
                refine lv_ior hx hb dX11_worksOut_144 ?_
                obtain ⟨M_18, eM_18, hr⟩ := lt1_e hr
                refine p11_16 hx hb hts hi11 hown hK hW (k := 0) rfl (hts _ (wm 2 rfl)) dX11_worksOut_145 (fun H locs hW => ?_)
                rw [← eM_18] at hW
                refine lv_aload_n hx hb dX11_worksOut_148 rfl (lv_at hl 0 rfl) ?_
                refine lv_dup hx hb dX11_worksOut_149 rfl ?_
                refine g11_17 hx hb hts hi11 hown hK hW (k := 0) rfl (hts _ (wm 3 rfl)) dX11_worksOut_150 ?_
                refine lv_aload_n hx hb dX11_worksOut_153 rfl (lv_at hl 0 rfl) ?_
                refine g11_10 hx hb hts hi11 hown hK hW (k := 0) rfl (hts _ (wm 7 rfl)) dX11_worksOut_154 ?_
                refine lv_iload_n hx hb dX11_worksOut_157 rfl (lv_at hl 2 rfl) ?_
                obtain ⟨hn158, hr⟩ := chk_e hr
                refine xiald hx hb hK hW (k := 9) (t := 20) rfl (by decide) (by decide) rfl (n := 4) hn158 (jx := (ix x2_8)) rfl dX11_worksOut_158 ?_
                refine lv_iconst (v := (3 : Int32)) hx hb dX11_worksOut_159 (by decide) ?_
                obtain ⟨y_19, hr, hr3⟩ := ob1_e hr
                have hj170_19 : ∀ (H : Heap) (locs : List Loc) (ls : Array Slot), Xw D false cA ad M_18 (AX false ad) s.heap H locs → lv_has ls 5 [(0, .ref (ad 0)), (1, .int x1), (2, .int x2_8)] → W p l e (headSpec wsX11_worksOut { frames := 3, cells := 0, slots := 0, locals := 73 }).room s m args below meth c H locs 0 0 (MQ below (QiX false D false cA ad r M') args s 0 0 (AX false ad)) (F0 m 170 ls [.int y_19, .int (gI M_18 0 17), .ref (ad 0)]) := by
                  intro H locs ls hW hl
                  have hr := hr3
                  refine lv_ior hx hb dX11_worksOut_170 ?_
                  obtain ⟨M_20, eM_20, hr⟩ := lt1_e hr
                  refine p11_17 hx hb hts hi11 hown hK hW (k := 0) rfl (hts _ (wm 3 rfl)) dX11_worksOut_171 (fun H locs hW => ?_)
                  rw [← eM_20] at hW
                  have e1 := Option.some.inj hr
                  subst e1
                  exact hj174_12 _ _ _ hW (lv_sub hl [0, 1, 2] rfl)
                clear hr3
                refine lv_icmp_ne (tgt := 169) hx hb dX11_worksOut_160 (by decide) (fun c1 => ?_) (fun c1 => ?_)
                · have hr := br_n c1 hr
                  refine lv_iconst (v := (0 : Int32)) hx hb dX11_worksOut_169 (by decide) ?_
                  have e1 := Option.some.inj hr
                  subst e1
                  exact hj170_19 _ _ _ hW (lv_sub hl [0, 1, 2] rfl)
                · have hr := br_p c1 hr
                  refine lv_iconst (v := (1 : Int32)) hx hb dX11_worksOut_163 (by decide) ?_
                  refine lv_iload_n hx hb dX11_worksOut_164 rfl (lv_at hl 2 rfl) ?_
                  refine lv_ishl hx hb dX11_worksOut_165 ?_
                  refine lv_goto (tgt := 170) hx hb dX11_worksOut_166 (by decide) ?_
                  have e1 := Option.some.inj hr
                  subst e1
                  exact hj170_19 _ _ _ hW (lv_sub hl [0, 1, 2] rfl)
              clear hr3
              refine lv_icmp_lt (tgt := 143) hx hb dX11_worksOut_134 (by decide) (fun c1 => ?_) (fun c1 => ?_)
              · have hr := br_p c1 hr
                refine lv_iconst (v := (0 : Int32)) hx hb dX11_worksOut_143 (by decide) ?_
                have e1 := Option.some.inj hr
                subst e1
                exact hj144_17 _ _ _ hW (lv_sub hl [0, 1, 2] rfl)
              · have hr := br_n c1 hr
                refine lv_iconst (v := (1 : Int32)) hx hb dX11_worksOut_137 (by decide) ?_
                refine lv_iload_n hx hb dX11_worksOut_138 rfl (lv_at hl 2 rfl) ?_
                refine lv_ishl hx hb dX11_worksOut_139 ?_
                refine lv_goto (tgt := 144) hx hb dX11_worksOut_140 (by decide) ?_
                have e1 := Option.some.inj hr
                subst e1
                exact hj144_17 _ _ _ hW (lv_sub hl [0, 1, 2] rfl)
            clear hr3
            refine lv_if_eq (tgt := 112) hx hb dX11_worksOut_105 (by decide) (fun c1 => ?_) (fun c1 => ?_)
            · have hr := br_p c1 hr
              refine lv_iload_n hx hb dX11_worksOut_112 rfl (lv_at hl 0 rfl) ?_
              refine lv_if_eq (tgt := 120) hx hb dX11_worksOut_113 (by decide) (fun c1 => ?_) (fun c1 => ?_)
              · have hr := br_p c1 hr
                refine lv_iconst (v := (4 : Int32)) hx hb dX11_worksOut_120 (by decide) ?_
                have e1 := Option.some.inj hr
                subst e1
                exact hj121_15 _ _ _ hW (lv_sub hl [1, 2, 3] rfl)
              · have hr := br_n c1 hr
                refine lv_iconst (v := (3 : Int32)) hx hb dX11_worksOut_116 (by decide) ?_
                refine lv_goto (tgt := 121) hx hb dX11_worksOut_117 (by decide) ?_
                have e1 := Option.some.inj hr
                subst e1
                exact hj121_15 _ _ _ hW (lv_sub hl [1, 2, 3] rfl)
            · have hr := br_n c1 hr
              refine lv_iconst (v := (2 : Int32)) hx hb dX11_worksOut_108 (by decide) ?_
              refine lv_goto (tgt := 121) hx hb dX11_worksOut_109 (by decide) ?_
              have e1 := Option.some.inj hr
              subst e1
              exact hj121_15 _ _ _ hW (lv_sub hl [1, 2, 3] rfl)
          clear hr3
          refine lv_if_ne (tgt := 88) hx hb dX11_worksOut_72 (by decide) (fun c1 => ?_) (fun c1 => ?_)
          · have hr := br_n c1 hr
            refine lv_iconst (v := (1 : Int32)) hx hb dX11_worksOut_88 (by decide) ?_
            refine lv_goto (tgt := 93) hx hb dX11_worksOut_89 (by decide) ?_
            have e1 := Option.some.inj hr
            subst e1
            exact hj93_13 _ _ _ hW (lv_sub hl [0, 1, 2] rfl)
          · have hr := br_p c1 hr
            refine lv_aload_n hx hb dX11_worksOut_75 rfl (lv_at hl 0 rfl) ?_
            refine g11_11 hx hb hts hi11 hown hK hW (k := 0) rfl (hts _ (wm 8 rfl)) dX11_worksOut_76 ?_
            refine lv_iconst (v := (2 : Int32)) hx hb dX11_worksOut_79 (by decide) ?_
            refine lv_iload_n hx hb dX11_worksOut_80 rfl (lv_at hl 2 rfl) ?_
            refine lv_imul hx hb dX11_worksOut_81 ?_
            refine lv_iconst (v := (1 : Int32)) hx hb dX11_worksOut_82 (by decide) ?_
            refine lv_iadd hx hb dX11_worksOut_83 ?_
            obtain ⟨hn84, hr⟩ := chk_e hr
            refine xiald hx hb hK hW (k := 10) (t := 27) rfl (by decide) (by decide) rfl (n := 8) hn84 (jx := (ix (((2 : Int32) * x2_8) + (1 : Int32)))) rfl dX11_worksOut_84 ?_
            refine lv_if_eq (tgt := 92) hx hb dX11_worksOut_85 (by decide) (fun c1 => ?_) (fun c1 => ?_)
            · have hr := br_p c1 hr
              refine lv_iconst (v := (0 : Int32)) hx hb dX11_worksOut_92 (by decide) ?_
              have e1 := Option.some.inj hr
              subst e1
              exact hj93_13 _ _ _ hW (lv_sub hl [0, 1, 2] rfl)
            · have hr := br_n c1 hr
              refine lv_iconst (v := (1 : Int32)) hx hb dX11_worksOut_88 (by decide) ?_
              refine lv_goto (tgt := 93) hx hb dX11_worksOut_89 (by decide) ?_
              have e1 := Option.some.inj hr
              subst e1
              exact hj93_13 _ _ _ hW (lv_sub hl [0, 1, 2] rfl)
  obtain ⟨M_10, hr, hr3⟩ := ob1_e hr
  refine hL36_1 1000 (0 : Int32) M_7 _ _ _ M_10 hW (lv_sub hl [1, 2, 0] rfl) hr (fun H locs ls hW hl => ?_)
  clear hr
  have hr := hr3
  refine lv_aload_n hx hb dX11_worksOut_223 rfl (lv_at hl 0 rfl) ?_
  refine g11_16 hx hb hts hi11 hown hK hW (k := 0) rfl (hts _ (wm 2 rfl)) dX11_worksOut_224 ?_
  refine lv_if_ne (tgt := 232) hx hb dX11_worksOut_227 (by decide) (fun c1 => ?_) (fun c1 => ?_)
  · have hr := br_n c1 hr
    refine lv_aload_n hx hb dX11_worksOut_232 rfl (lv_at hl 0 rfl) ?_
    refine lv_aload_n hx hb dX11_worksOut_233 rfl (lv_at hl 0 rfl) ?_
    obtain ⟨r_28, hc234, hr⟩ := ob1_e hr
    refine xk_l (va_runV (As := []) (rest := [.ref (ad 0)]) ⟨hx, hb, hml, hown, hts⟩ (c_X11_weighted l D cA ad M_10 hc234) (cwV 0 hts gX11_worksOut_X11_weighted rfl rfl rfl (by decide +kernel) ⟨Nat.le_of_ble_eq_true rfl, Nat.le_of_ble_eq_true rfl⟩) (xpreV hK hW (k := 0) rfl (by decide) rfl) rfl rfl hl.1 rfl (lv_room (Nat.le_of_ble_eq_true rfl)) dX11_worksOut_234 ⟨Nat.le_of_ble_eq_true rfl, Nat.le_of_ble_eq_true rfl⟩) hW (fun H locs hW => ?_)
    obtain ⟨M_29, eM_29, hr⟩ := lt1_e hr
    refine p11_19 hx hb hts hi11 hown hK hW (k := 0) rfl (hts _ (wm 10 rfl)) dX11_worksOut_237 (fun H locs hW => ?_)
    rw [← eM_29] at hW
    refine lv_aload_n hx hb dX11_worksOut_240 rfl (lv_at hl 0 rfl) ?_
    refine g11_19 hx hb hts hi11 hown hK hW (k := 0) rfl (hts _ (wm 10 rfl)) dX11_worksOut_241 ?_
    obtain ⟨x2_30, ex2_30, hr⟩ := lt1_e hr
    rw [← ex2_30]
    refine lv_lstore_n (lv' := [(2, .long x2_30), (0, .ref (ad 0))]) hx hb dX11_worksOut_244 rfl hl (by decide) rfl (fun ls hl => ?_)
    refine lv_iconst (v := (0 : Int32)) hx hb dX11_worksOut_245 (by decide) ?_
    refine lv_istore (lv' := [(4, .int (0 : Int32)), (2, .long x2_30), (0, .ref (ad 0))]) hx hb dX11_worksOut_246 hl (by decide) rfl (fun ls hl => ?_)
    have hL248_2 : ∀ (n : Nat) (x4_31 : Int32) (M_32 : Mm) (H : Heap) (locs : List Loc) (ls : Array Slot) (M_33 : Mm), Xw D false cA ad M_32 (AX false ad) s.heap H locs → lv_has ls 5 [(2, .long x2_30), (0, .ref (ad 0)), (4, .int x4_31)] → f_X11_worksOut_L248 x2_30 n x4_31 M_32 = some M_33 → (∀ (H : Heap) (locs : List Loc) (ls : Array Slot), Xw D false cA ad M_33 (AX false ad) s.heap H locs → lv_has ls 5 [(0, .ref (ad 0))] → W p l e (headSpec wsX11_worksOut { frames := 3, cells := 0, slots := 0, locals := 73 }).room s m args below meth c H locs 0 0 (MQ below (QiX false D false cA ad r M') args s 0 0 (AX false ad)) (F0 m 332 ls [])) → W p l e (headSpec wsX11_worksOut { frames := 3, cells := 0, slots := 0, locals := 73 }).room s m args below meth c H locs 0 0 (MQ below (QiX false D false cA ad r M') args s 0 0 (AX false ad)) (F0 m 248 ls []) := by
      intro n
      induction n with
      | zero =>
        intro x4_31 M_32 H locs ls M_33 hW hl hr hk
        exact absurd hr (by simp [f_X11_worksOut_L248])
      | succ n ih =>
        intro x4_31 M_32 H locs ls M_33 hW hl hr hk
        rw [f_X11_worksOut_L248] at hr
        refine lv_iload hx hb dX11_worksOut_248 (lv_at hl 2 rfl) ?_
        refine lv_aload_n hx hb dX11_worksOut_250 rfl (lv_at hl 1 rfl) ?_
        refine g11_0 hx hb hts hi11 hown hK hW (k := 0) rfl (hts _ (wm 5 rfl)) dX11_worksOut_251 ?_
        refine lv_bipush (v := (64 : Int32)) hx hb dX11_worksOut_254 (by decide) ?_
        refine xiald hx hb hK hW (k := 1) (t := 24) rfl (by decide) (by decide) rfl (n := 159) (by decide) (jx := 64) (by decide) dX11_worksOut_256 ?_
        refine lv_icmp_ge (tgt := 332) hx hb dX11_worksOut_257 (by decide) (fun c1 => ?_) (fun c1 => ?_)
        · have hr := br_p c1 hr
          have e1 := Option.some.inj hr
          subst e1
          exact hk _ _ _ hW (lv_sub hl [1] rfl)
        · have hr := br_n c1 hr
          refine lv_aload_n hx hb dX11_worksOut_260 rfl (lv_at hl 1 rfl) ?_
          refine g11_14 hx hb hts hi11 hown hK hW (k := 0) rfl (hts _ (wm 6 rfl)) dX11_worksOut_261 ?_
          refine lv_iload hx hb dX11_worksOut_264 (lv_at hl 2 rfl) ?_
          obtain ⟨hn266, hr⟩ := chk_e hr
          refine xzald hx hb hK hW (k := 13) (t := 30) rfl (by decide) (by decide) rfl (n := 4) hn266 (jx := (ix x4_31)) rfl dX11_worksOut_266 ?_
          obtain ⟨M_34, hr, hr3⟩ := ob1_e hr
          have hj326_34 : ∀ (H : Heap) (locs : List Loc) (ls : Array Slot), Xw D false cA ad M_34 (AX false ad) s.heap H locs → lv_has ls 5 [(2, .long x2_30), (0, .ref (ad 0)), (4, .int x4_31)] → W p l e (headSpec wsX11_worksOut { frames := 3, cells := 0, slots := 0, locals := 73 }).room s m args below meth c H locs 0 0 (MQ below (QiX false D false cA ad r M') args s 0 0 (AX false ad)) (F0 m 326 ls []) := by
            intro H locs ls hW hl
            have hr := hr3
            obtain ⟨x4_40, ex4_40, hr⟩ := lt1_e hr
            refine lv_iinc (v := x4_40) (lv' := [(4, .int x4_40), (2, .long x2_30), (0, .ref (ad 0))]) hx hb dX11_worksOut_326 hl (k := 2) rfl (by rw [ex4_40]; rfl) (by decide) rfl (fun ls hl => ?_)
            refine lv_goto (tgt := 248) hx hb dX11_worksOut_329 (by decide) ?_
            exact ih x4_40 M_34 _ _ _ _ hW (lv_sub hl [1, 2, 0] rfl) hr hk
          clear hr3
          refine lv_if_ne (tgt := 326) hx hb dX11_worksOut_267 (by decide) (fun c1 => ?_) (fun c1 => ?_)
          · have hr := br_n c1 hr
            have e1 := Option.some.inj hr
            subst e1
            exact hj326_34 _ _ _ hW (lv_sub hl [0, 1, 2] rfl)
          · have hr := br_p c1 hr
            refine lv_aload_n hx hb dX11_worksOut_270 rfl (lv_at hl 1 rfl) ?_
            refine lv_iload hx hb dX11_worksOut_271 (lv_at hl 2 rfl) ?_
            refine lv_bipush (v := (7 : Int32)) hx hb dX11_worksOut_273 (by decide) ?_
            obtain ⟨r_35, hc275, hr⟩ := ob1_e hr
            refine xk_i (va_runV (As := [.int x4_31, .int (7 : Int32)]) (rest := []) ⟨hx, hb, hml, hown, hts⟩ (c_X11_of l D cA ad M_32 x4_31 (7 : Int32) hc275) (cwV 2 hts gX11_worksOut_X11_of rfl rfl rfl (by decide +kernel) ⟨Nat.le_of_ble_eq_true rfl, Nat.le_of_ble_eq_true rfl⟩) (xpreV hK hW (k := 0) rfl (by decide) rfl) rfl rfl hl.1 rfl (lv_room (Nat.le_of_ble_eq_true rfl)) dX11_worksOut_275 ⟨Nat.le_of_ble_eq_true rfl, Nat.le_of_ble_eq_true rfl⟩) hW (fun H locs hW => ?_)
            refine lv_ldc (v := (-2000000005 : Int32)) hx hb hown (hts _ (wm 11 rfl)) dX11_worksOut_278 ?_
            refine lv_icmp_eq (tgt := 326) hx hb dX11_worksOut_280 (by decide) (fun c1 => ?_) (fun c1 => ?_)
            · have hr := br_p c1 hr
              have e1 := Option.some.inj hr
              subst e1
              exact hj326_34 _ _ _ hW (lv_sub hl [0, 1, 2] rfl)
            · have hr := br_n c1 hr
              refine lv_aload_n hx hb dX11_worksOut_283 rfl (lv_at hl 1 rfl) ?_
              refine g11_13 hx hb hts hi11 hown hK hW (k := 0) rfl (hts _ (wm 9 rfl)) dX11_worksOut_284 ?_
              refine lv_iload hx hb dX11_worksOut_287 (lv_at hl 2 rfl) ?_
              refine lv_lload_n hx hb dX11_worksOut_289 rfl (lv_at hl 0 rfl) ?_
              refine lv_aload_n hx hb dX11_worksOut_290 rfl (lv_at hl 1 rfl) ?_
              refine lv_iload hx hb dX11_worksOut_291 (lv_at hl 2 rfl) ?_
              refine lv_bipush (v := (7 : Int32)) hx hb dX11_worksOut_293 (by decide) ?_
              obtain ⟨r_36, hc295, hr⟩ := ob1_e hr
              refine xk_i (va_runV (As := [.int x4_31, .int (7 : Int32)]) (rest := [.long x2_30, .int x4_31, .ref (ad 12)]) ⟨hx, hb, hml, hown, hts⟩ (c_X11_of l D cA ad M_32 x4_31 (7 : Int32) hc295) (cwV 2 hts gX11_worksOut_X11_of rfl rfl rfl (by decide +kernel) ⟨Nat.le_of_ble_eq_true rfl, Nat.le_of_ble_eq_true rfl⟩) (xpreV hK hW (k := 0) rfl (by decide) rfl) rfl rfl hl.1 rfl (lv_room (Nat.le_of_ble_eq_true rfl)) dX11_worksOut_295 ⟨Nat.le_of_ble_eq_true rfl, Nat.le_of_ble_eq_true rfl⟩) hW (fun H locs hW => ?_)
              refine lv_i2l hx hb dX11_worksOut_298 rfl ?_
              refine lv_lmul hx hb dX11_worksOut_299 ?_
              refine lv_ldc2 (v := (1000 : Int64)) hx hb hown (hts _ (wm 12 rfl)) dX11_worksOut_300 ?_
              refine lv_ldiv hx hb dX11_worksOut_303 (by decide) ?_
              obtain ⟨hn304, hr⟩ := chk_e hr
              obtain ⟨M_37, eM_37, hr⟩ := lt1_e hr
              refine xlast hx hb hK hW (k := 12) (t := 43) rfl (by decide) (by decide) rfl (n := 4) hn304 (jx := (ix x4_31)) rfl dX11_worksOut_304 (fun H locs hW => ?_)
              rw [← eM_37] at hW
              refine lv_aload_n hx hb dX11_worksOut_305 rfl (lv_at hl 1 rfl) ?_
              refine g11_14 hx hb hts hi11 hown hK hW (k := 0) rfl (hts _ (wm 6 rfl)) dX11_worksOut_306 ?_
              refine lv_iload hx hb dX11_worksOut_309 (lv_at hl 2 rfl) ?_
              refine lv_iconst (v := (1 : Int32)) hx hb dX11_worksOut_311 (by decide) ?_
              obtain ⟨hn312, hr⟩ := chk_e hr
              obtain ⟨M_38, eM_38, hr⟩ := lt1_e hr
              refine xzast hx hb hK hW (k := 13) (t := 30) rfl (by decide) (by decide) rfl (n := 4) hn312 (jx := (ix x4_31)) rfl (by decide) dX11_worksOut_312 (fun H locs hW => ?_)
              rw [← eM_38] at hW
              refine lv_aload_n hx hb dX11_worksOut_313 rfl (lv_at hl 1 rfl) ?_
              refine lv_dup hx hb dX11_worksOut_314 rfl ?_
              refine g11_18 hx hb hts hi11 hown hK hW (k := 0) rfl (hts _ (wm 4 rfl)) dX11_worksOut_315 ?_
              refine lv_iconst (v := (1 : Int32)) hx hb dX11_worksOut_318 (by decide) ?_
              refine lv_iload hx hb dX11_worksOut_319 (lv_at hl 2 rfl) ?_
              refine lv_ishl hx hb dX11_worksOut_321 ?_
              refine lv_ior hx hb dX11_worksOut_322 ?_
              obtain ⟨M_39, eM_39, hr⟩ := lt1_e hr
              refine p11_18 hx hb hts hi11 hown hK hW (k := 0) rfl (hts _ (wm 4 rfl)) dX11_worksOut_323 (fun H locs hW => ?_)
              rw [← eM_39] at hW
              have e1 := Option.some.inj hr
              subst e1
              exact hj326_34 _ _ _ hW (lv_sub hl [0, 1, 2] rfl)
    obtain ⟨M_33, hr, hr3⟩ := ob1_e hr
    refine hL248_2 1000 (0 : Int32) M_29 _ _ _ M_33 hW (lv_sub hl [1, 2, 0] rfl) hr (fun H locs ls hW hl => ?_)
    clear hr
    have hr := hr3
    refine lv_aload_n hx hb dX11_worksOut_332 rfl (lv_at hl 0 rfl) ?_
    refine lv_aload_n hx hb dX11_worksOut_333 rfl (lv_at hl 0 rfl) ?_
    obtain ⟨r_41, hc334, hr⟩ := ob1_e hr
    refine xk_l (va_runV (As := []) (rest := [.ref (ad 0)]) ⟨hx, hb, hml, hown, hts⟩ (c_X11_weighted l D cA ad M_33 hc334) (cwV 0 hts gX11_worksOut_X11_weighted rfl rfl rfl (by decide +kernel) ⟨Nat.le_of_ble_eq_true rfl, Nat.le_of_ble_eq_true rfl⟩) (xpreV hK hW (k := 0) rfl (by decide) rfl) rfl rfl hl.1 rfl (lv_room (Nat.le_of_ble_eq_true rfl)) dX11_worksOut_334 ⟨Nat.le_of_ble_eq_true rfl, Nat.le_of_ble_eq_true rfl⟩) hW (fun H locs hW => ?_)
    obtain ⟨M_42, eM_42, hr⟩ := lt1_e hr
    refine p11_19 hx hb hts hi11 hown hK hW (k := 0) rfl (hts _ (wm 10 rfl)) dX11_worksOut_337 (fun H locs hW => ?_)
    rw [← eM_42] at hW
    refine lv_iconst (v := (1 : Int32)) hx hb dX11_worksOut_340 (by decide) ?_
    obtain ⟨e1, e2⟩ := Prod.mk.inj (Option.some.inj hr)
    rw [← e1, ← e2]
    exact xzret hx hb hr0 hlocks hW adR_rf (by decide) dX11_worksOut_341
  · have hr := br_p c1 hr
    refine lv_iconst (v := (0 : Int32)) hx hb dX11_worksOut_230 (by decide) ?_
    obtain ⟨e1, e2⟩ := Prod.mk.inj (Option.some.inj hr)
    rw [← e1, ← e2]
    exact xzret hx hb hr0 hlocks hW adR_rf (by decide) dX11_worksOut_231

set_option maxHeartbeats 4000000 in
set_option maxRecDepth 100000 in
theorem c_X11_roundVelocity (l : Launch) (D : va_G) (cA : Nat → ClassId) (ad : Nat → Nat) (M : Mm) {r : Int32} (hr : f_X11_roundVelocity M = some r) : Met l yX11_roundVelocity wsX11_roundVelocity ({ frames := 3, cells := 0, slots := 0, locals := 73 }) (PcX D false cA ad M [.ref (ad 0)]) (QiX false D false cA ad r M) 0 0 (AX false ad) := by
  refine Met.ofW (cc := cX11_roundVelocity) (maxL := 1) (ret := (some .int)) (by decide) rfl ?_
  intro p e s m args below meth c s₁ B hml hv
  obtain ⟨hav, hP0, hK⟩ := hv
  have hx := B.exec
  have hb := B.bytes
  have hr0 := B.returns
  have hts := atoms_spec (ws := wsX11_roundVelocity) B.pre
  have hown : s.vm.findClass RX11 = some m.cls := findClass_of_methodNamed B.named
  have hlocks := B.notSynchronized
  have hW := xstart hP0
  have hi11 : ∀ w ∈ wsX110, w ∈ wsX11_roundVelocity := fun w h => List.mem_cons_of_mem _ (List.mem_append_right _ h)
  have hl := lv_entry ([.ref (ad 0)]) (n := 1) (Nat.le_of_ble_eq_true rfl)
  have hef := lg_entry_eq m ([.ref (ad 0)]) 1
  rw [← hav] at hef
  rw [hef]
  clear hef
  generalize (lg_sl ([.ref (ad 0)]) ++ List.replicate (1 - (lg_sl ([.ref (ad 0)])).length) Slot.unset).toArray = ls at hl ⊢
  have hl : lv_has ls 1 [(0, .ref (ad 0))] := hl
  clear hP0
  unfold f_X11_roundVelocity at hr
  refine lv_aload_n hx hb dX11_roundVelocity_0 rfl (lv_at hl 0 rfl) ?_
  refine g11_19 hx hb hts hi11 hown hK hW (k := 0) rfl (hts _ (wm 1 rfl)) dX11_roundVelocity_1 ?_
  refine lv_aload_n hx hb dX11_roundVelocity_4 rfl (lv_at hl 0 rfl) ?_
  refine lv_aload_n hx hb dX11_roundVelocity_5 rfl (lv_at hl 0 rfl) ?_
  refine g11_19 hx hb hts hi11 hown hK hW (k := 0) rfl (hts _ (wm 1 rfl)) dX11_roundVelocity_6 ?_
  obtain ⟨r_1, hc9, hr⟩ := ob1_e hr
  refine xk_i (va_runV (As := [.long (gJ M 0 19)]) (rest := [.long (gJ M 0 19)]) ⟨hx, hb, hml, hown, hts⟩ (c_X11_factorFor l D cA ad M (gJ M 0 19) hc9) (cwV 1 hts gX11_roundVelocity_X11_factorFor rfl rfl rfl (by decide +kernel) ⟨Nat.le_of_ble_eq_true rfl, Nat.le_of_ble_eq_true rfl⟩) (xpreV hK hW (k := 0) rfl (by decide) rfl) rfl rfl hl.1 rfl (lv_room (Nat.le_of_ble_eq_true rfl)) dX11_roundVelocity_9 ⟨Nat.le_of_ble_eq_true rfl, Nat.le_of_ble_eq_true rfl⟩) hW (fun H locs hW => ?_)
  refine lv_i2l hx hb dX11_roundVelocity_12 rfl ?_
  refine lv_lmul hx hb dX11_roundVelocity_13 ?_
  refine lv_ldc2 (v := (1000 : Int64)) hx hb hown (hts _ (wm 2 rfl)) dX11_roundVelocity_14 ?_
  refine lv_ldiv hx hb dX11_roundVelocity_17 (by decide) ?_
  refine lv_l2i hx hb dX11_roundVelocity_18 rfl ?_
  rw [← Option.some.inj hr]
  exact xiret hx hb hr0 hlocks hW adR_rf dX11_roundVelocity_19

set_option maxHeartbeats 4000000 in
set_option maxRecDepth 100000 in
theorem c_X11_tells (l : Launch) (D : va_G) (cA : Nat → ClassId) (ad : Nat → Nat) (M : Mm) (x1 : Int32) {M' : Mm} (hr : f_X11_tells x1 M = some M') : Met l yX11_tells wsX11_tells ({ frames := 2, cells := 0, slots := 0, locals := 44 }) (PcX D false cA ad M [.ref (ad 0), .int x1]) (QvX false D false cA ad M') 0 0 (AX false ad) := by
  refine Met.ofW (cc := cX11_tells) (maxL := 5) (ret := none) (by decide) rfl ?_
  intro p e s m args below meth c s₁ B hml hv
  obtain ⟨hav, hP0, hK⟩ := hv
  have hx := B.exec
  have hb := B.bytes
  have hr0 := B.returns
  have hts := atoms_spec (ws := wsX11_tells) B.pre
  have hown : s.vm.findClass RX11 = some m.cls := findClass_of_methodNamed B.named
  have hlocks := B.notSynchronized
  have hW := xstart hP0
  have hi11 : ∀ w ∈ wsX110, w ∈ wsX11_tells := fun w h => List.mem_cons_of_mem _ (List.mem_append_right _ h)
  have hl := lv_entry ([.ref (ad 0), .int x1]) (n := 5) (Nat.le_of_ble_eq_true rfl)
  have hef := lg_entry_eq m ([.ref (ad 0), .int x1]) 5
  rw [← hav] at hef
  rw [hef]
  clear hef
  generalize (lg_sl ([.ref (ad 0), .int x1]) ++ List.replicate (5 - (lg_sl ([.ref (ad 0), .int x1])).length) Slot.unset).toArray = ls at hl ⊢
  have hl : lv_has ls 5 [(0, .ref (ad 0)), (1, .int x1)] := hl
  clear hP0
  unfold f_X11_tells at hr
  refine lv_aload_n hx hb dX11_tells_0 rfl (lv_at hl 0 rfl) ?_
  refine g11_10 hx hb hts hi11 hown hK hW (k := 0) rfl (hts _ (wm 1 rfl)) dX11_tells_1 ?_
  refine lv_iload_n hx hb dX11_tells_4 rfl (lv_at hl 1 rfl) ?_
  obtain ⟨hn5, hr⟩ := chk_e hr
  refine xiald hx hb hK hW (k := 9) (t := 20) rfl (by decide) (by decide) rfl (n := 4) hn5 (jx := (ix x1)) rfl dX11_tells_5 ?_
  refine lv_iconst (v := (3 : Int32)) hx hb dX11_tells_6 (by decide) ?_
  obtain ⟨y_1, hr, hr3⟩ := ob1_e hr
  have hj15_1 : ∀ (H : Heap) (locs : List Loc) (ls : Array Slot), Xw D false cA ad M (AX false ad) s.heap H locs → lv_has ls 5 [(0, .ref (ad 0)), (1, .int x1)] → W p l e (headSpec wsX11_tells { frames := 2, cells := 0, slots := 0, locals := 44 }).room s m args below meth c H locs 0 0 (MQ below (QvX false D false cA ad M') args s 0 0 (AX false ad)) (F0 m 15 ls [.int y_1]) := by
    intro H locs ls hW hl
    have hr := hr3
    refine lv_istore_n (lv' := [(2, .int y_1), (0, .ref (ad 0)), (1, .int x1)]) hx hb dX11_tells_15 rfl hl (by decide) rfl (fun ls hl => ?_)
    refine lv_iload_n hx hb dX11_tells_16 rfl (lv_at hl 0 rfl) ?_
    obtain ⟨M_2, hr, hr3⟩ := ob1_e hr
    have hj53_2 : ∀ (H : Heap) (locs : List Loc) (ls : Array Slot), Xw D false cA ad M_2 (AX false ad) s.heap H locs → lv_has ls 5 [(2, .int y_1), (0, .ref (ad 0)), (1, .int x1)] → W p l e (headSpec wsX11_tells { frames := 2, cells := 0, slots := 0, locals := 44 }).room s m args below meth c H locs 0 0 (MQ below (QvX false D false cA ad M') args s 0 0 (AX false ad)) (F0 m 53 ls []) := by
      intro H locs ls hW hl
      have hr := hr3
      refine lv_iload_n hx hb dX11_tells_53 rfl (lv_at hl 0 rfl) ?_
      obtain ⟨M_9, hr, hr3⟩ := ob1_e hr
      have hj95_9 : ∀ (H : Heap) (locs : List Loc) (ls : Array Slot), Xw D false cA ad M_9 (AX false ad) s.heap H locs → lv_has ls 5 [(2, .int y_1), (0, .ref (ad 0)), (1, .int x1)] → W p l e (headSpec wsX11_tells { frames := 2, cells := 0, slots := 0, locals := 44 }).room s m args below meth c H locs 0 0 (MQ below (QvX false D false cA ad M') args s 0 0 (AX false ad)) (F0 m 95 ls []) := by
        intro H locs ls hW hl
        have hr := hr3
        refine lv_aload_n hx hb dX11_tells_95 rfl (lv_at hl 1 rfl) ?_
        refine lv_iload_n hx hb dX11_tells_96 rfl (lv_at hl 2 rfl) ?_
        refine lv_bipush (v := (8 : Int32)) hx hb dX11_tells_97 (by decide) ?_
        refine lv_aload_n hx hb dX11_tells_99 rfl (lv_at hl 1 rfl) ?_
        refine g11_10 hx hb hts hi11 hown hK hW (k := 0) rfl (hts _ (wm 1 rfl)) dX11_tells_100 ?_
        refine lv_iload_n hx hb dX11_tells_103 rfl (lv_at hl 2 rfl) ?_
        obtain ⟨hn104, hr⟩ := chk_e hr
        refine xiald hx hb hK hW (k := 9) (t := 20) rfl (by decide) (by decide) rfl (n := 4) hn104 (jx := (ix x1)) rfl dX11_tells_104 ?_
        obtain ⟨M_12, hc105, hr⟩ := ob1_e hr
        refine xk_v (va_runV (As := [.int x1, .int (8 : Int32), .int (gI M_9 9 (ix x1))]) (rest := []) ⟨hx, hb, hml, hown, hts⟩ (c_X11_lay l D cA ad M_9 x1 (8 : Int32) (gI M_9 9 (ix x1)) hc105) (cwV 3 hts gX11_tells_X11_lay rfl rfl rfl (by decide +kernel) ⟨Nat.le_of_ble_eq_true rfl, Nat.le_of_ble_eq_true rfl⟩) (xpreV hK hW (k := 0) rfl (by decide) rfl) rfl rfl hl.1 rfl (lv_room (Nat.le_of_ble_eq_true rfl)) dX11_tells_105 ⟨Nat.le_of_ble_eq_true rfl, Nat.le_of_ble_eq_true rfl⟩) hW (fun H locs hW => ?_)
        refine lv_aload_n hx hb dX11_tells_108 rfl (lv_at hl 1 rfl) ?_
        refine lv_iload_n hx hb dX11_tells_109 rfl (lv_at hl 2 rfl) ?_
        refine lv_bipush (v := (9 : Int32)) hx hb dX11_tells_110 (by decide) ?_
        refine lv_aload_n hx hb dX11_tells_112 rfl (lv_at hl 1 rfl) ?_
        refine g11_16 hx hb hts hi11 hown hK hW (k := 0) rfl (hts _ (wm 6 rfl)) dX11_tells_113 ?_
        obtain ⟨y_13, hr, hr3⟩ := ob1_e hr
        have hj140_13 : ∀ (H : Heap) (locs : List Loc) (ls : Array Slot), Xw D false cA ad M_12 (AX false ad) s.heap H locs → lv_has ls 5 [(2, .int y_1), (0, .ref (ad 0)), (1, .int x1)] → W p l e (headSpec wsX11_tells { frames := 2, cells := 0, slots := 0, locals := 44 }).room s m args below meth c H locs 0 0 (MQ below (QvX false D false cA ad M') args s 0 0 (AX false ad)) (F0 m 140 ls [.int y_13, .int (9 : Int32), .int x1, .ref (ad 0)]) := by
          intro H locs ls hW hl
          have hr := hr3
          obtain ⟨M_14, hc140, hr⟩ := ob1_e hr
          refine xk_v (va_runV (As := [.int x1, .int (9 : Int32), .int y_13]) (rest := []) ⟨hx, hb, hml, hown, hts⟩ (c_X11_lay l D cA ad M_12 x1 (9 : Int32) y_13 hc140) (cwV 3 hts gX11_tells_X11_lay rfl rfl rfl (by decide +kernel) ⟨Nat.le_of_ble_eq_true rfl, Nat.le_of_ble_eq_true rfl⟩) (xpreV hK hW (k := 0) rfl (by decide) rfl) rfl rfl hl.1 rfl (lv_room (Nat.le_of_ble_eq_true rfl)) dX11_tells_140 ⟨Nat.le_of_ble_eq_true rfl, Nat.le_of_ble_eq_true rfl⟩) hW (fun H locs hW => ?_)
          refine lv_aload_n hx hb dX11_tells_143 rfl (lv_at hl 1 rfl) ?_
          refine lv_iload_n hx hb dX11_tells_144 rfl (lv_at hl 2 rfl) ?_
          refine lv_bipush (v := (10 : Int32)) hx hb dX11_tells_145 (by decide) ?_
          refine lv_iload_n hx hb dX11_tells_147 rfl (lv_at hl 0 rfl) ?_
          obtain ⟨y_15, hr, hr3⟩ := ob1_e hr
          have hj164_15 : ∀ (H : Heap) (locs : List Loc) (ls : Array Slot), Xw D false cA ad M_14 (AX false ad) s.heap H locs → lv_has ls 5 [(0, .ref (ad 0)), (1, .int x1)] → W p l e (headSpec wsX11_tells { frames := 2, cells := 0, slots := 0, locals := 44 }).room s m args below meth c H locs 0 0 (MQ below (QvX false D false cA ad M') args s 0 0 (AX false ad)) (F0 m 164 ls [.int y_15, .int (10 : Int32), .int x1, .ref (ad 0)]) := by
            intro H locs ls hW hl
            have hr := hr3
            obtain ⟨M_17, hc164, hr⟩ := ob1_e hr
            refine xk_v (va_runV (As := [.int x1, .int (10 : Int32), .int y_15]) (rest := []) ⟨hx, hb, hml, hown, hts⟩ (c_X11_lay l D cA ad M_14 x1 (10 : Int32) y_15 hc164) (cwV 3 hts gX11_tells_X11_lay rfl rfl rfl (by decide +kernel) ⟨Nat.le_of_ble_eq_true rfl, Nat.le_of_ble_eq_true rfl⟩) (xpreV hK hW (k := 0) rfl (by decide) rfl) rfl rfl hl.1 rfl (lv_room (Nat.le_of_ble_eq_true rfl)) dX11_tells_164 ⟨Nat.le_of_ble_eq_true rfl, Nat.le_of_ble_eq_true rfl⟩) hW (fun H locs hW => ?_)
            refine lv_aload_n hx hb dX11_tells_167 rfl (lv_at hl 0 rfl) ?_
            refine lv_iload_n hx hb dX11_tells_168 rfl (lv_at hl 1 rfl) ?_
            refine lv_bipush (v := (11 : Int32)) hx hb dX11_tells_169 (by decide) ?_
            refine lv_aload_n hx hb dX11_tells_171 rfl (lv_at hl 0 rfl) ?_
            refine lv_iload_n hx hb dX11_tells_172 rfl (lv_at hl 1 rfl) ?_
            refine lv_bipush (v := (11 : Int32)) hx hb dX11_tells_173 (by decide) ?_
            obtain ⟨r_18, hc175, hr⟩ := ob1_e hr
            refine xk_i (va_runV (As := [.int x1, .int (11 : Int32)]) (rest := [.int (11 : Int32), .int x1, .ref (ad 0)]) ⟨hx, hb, hml, hown, hts⟩ (c_X11_of l D cA ad M_17 x1 (11 : Int32) hc175) (cwV 2 hts gX11_tells_X11_of rfl rfl rfl (by decide +kernel) ⟨Nat.le_of_ble_eq_true rfl, Nat.le_of_ble_eq_true rfl⟩) (xpreV hK hW (k := 0) rfl (by decide) rfl) rfl rfl hl.1 rfl (lv_room (Nat.le_of_ble_eq_true rfl)) dX11_tells_175 ⟨Nat.le_of_ble_eq_true rfl, Nat.le_of_ble_eq_true rfl⟩) hW (fun H locs hW => ?_)
            refine lv_aload_n hx hb dX11_tells_178 rfl (lv_at hl 0 rfl) ?_
            refine g11_10 hx hb hts hi11 hown hK hW (k := 0) rfl (hts _ (wm 1 rfl)) dX11_tells_179 ?_
            refine lv_iload_n hx hb dX11_tells_182 rfl (lv_at hl 1 rfl) ?_
            obtain ⟨hn183, hr⟩ := chk_e hr
            refine xiald hx hb hK hW (k := 9) (t := 20) rfl (by decide) (by decide) rfl (n := 4) hn183 (jx := (ix x1)) rfl dX11_tells_183 ?_
            refine lv_iconst (v := (3 : Int32)) hx hb dX11_tells_184 (by decide) ?_
            obtain ⟨y_19, hr, hr3⟩ := ob1_e hr
            have hj193_19 : ∀ (H : Heap) (locs : List Loc) (ls : Array Slot), Xw D false cA ad M_17 (AX false ad) s.heap H locs → lv_has ls 5 [(0, .ref (ad 0)), (1, .int x1)] → W p l e (headSpec wsX11_tells { frames := 2, cells := 0, slots := 0, locals := 44 }).room s m args below meth c H locs 0 0 (MQ below (QvX false D false cA ad M') args s 0 0 (AX false ad)) (F0 m 193 ls [.int y_19, .int r_18, .int (11 : Int32), .int x1, .ref (ad 0)]) := by
              intro H locs ls hW hl
              have hr := hr3
              refine lv_iadd hx hb dX11_tells_193 ?_
              obtain ⟨M_20, hc194, hr⟩ := ob1_e hr
              refine xk_v (va_runV (As := [.int x1, .int (11 : Int32), .int (r_18 + y_19)]) (rest := []) ⟨hx, hb, hml, hown, hts⟩ (c_X11_lay l D cA ad M_17 x1 (11 : Int32) (r_18 + y_19) hc194) (cwV 3 hts gX11_tells_X11_lay rfl rfl rfl (by decide +kernel) ⟨Nat.le_of_ble_eq_true rfl, Nat.le_of_ble_eq_true rfl⟩) (xpreV hK hW (k := 0) rfl (by decide) rfl) rfl rfl hl.1 rfl (lv_room (Nat.le_of_ble_eq_true rfl)) dX11_tells_194 ⟨Nat.le_of_ble_eq_true rfl, Nat.le_of_ble_eq_true rfl⟩) hW (fun H locs hW => ?_)
              refine lv_aload_n hx hb dX11_tells_197 rfl (lv_at hl 0 rfl) ?_
              refine lv_iload_n hx hb dX11_tells_198 rfl (lv_at hl 1 rfl) ?_
              refine lv_bipush (v := (12 : Int32)) hx hb dX11_tells_199 (by decide) ?_
              refine lv_aload_n hx hb dX11_tells_201 rfl (lv_at hl 0 rfl) ?_
              refine lv_iload_n hx hb dX11_tells_202 rfl (lv_at hl 1 rfl) ?_
              refine lv_bipush (v := (12 : Int32)) hx hb dX11_tells_203 (by decide) ?_
              obtain ⟨r_21, hc205, hr⟩ := ob1_e hr
              refine xk_i (va_runV (As := [.int x1, .int (12 : Int32)]) (rest := [.int (12 : Int32), .int x1, .ref (ad 0)]) ⟨hx, hb, hml, hown, hts⟩ (c_X11_of l D cA ad M_20 x1 (12 : Int32) hc205) (cwV 2 hts gX11_tells_X11_of rfl rfl rfl (by decide +kernel) ⟨Nat.le_of_ble_eq_true rfl, Nat.le_of_ble_eq_true rfl⟩) (xpreV hK hW (k := 0) rfl (by decide) rfl) rfl rfl hl.1 rfl (lv_room (Nat.le_of_ble_eq_true rfl)) dX11_tells_205 ⟨Nat.le_of_ble_eq_true rfl, Nat.le_of_ble_eq_true rfl⟩) hW (fun H locs hW => ?_)
              refine lv_aload_n hx hb dX11_tells_208 rfl (lv_at hl 0 rfl) ?_
              refine g11_10 hx hb hts hi11 hown hK hW (k := 0) rfl (hts _ (wm 1 rfl)) dX11_tells_209 ?_
              refine lv_iload_n hx hb dX11_tells_212 rfl (lv_at hl 1 rfl) ?_
              obtain ⟨hn213, hr⟩ := chk_e hr
              refine xiald hx hb hK hW (k := 9) (t := 20) rfl (by decide) (by decide) rfl (n := 4) hn213 (jx := (ix x1)) rfl dX11_tells_213 ?_
              refine lv_iconst (v := (2 : Int32)) hx hb dX11_tells_214 (by decide) ?_
              obtain ⟨y_22, hr, hr3⟩ := ob1_e hr
              have hj223_22 : ∀ (H : Heap) (locs : List Loc) (ls : Array Slot), Xw D false cA ad M_20 (AX false ad) s.heap H locs → lv_has ls 5 [] → W p l e (headSpec wsX11_tells { frames := 2, cells := 0, slots := 0, locals := 44 }).room s m args below meth c H locs 0 0 (MQ below (QvX false D false cA ad M') args s 0 0 (AX false ad)) (F0 m 223 ls [.int y_22, .int r_21, .int (12 : Int32), .int x1, .ref (ad 0)]) := by
                intro H locs ls hW hl
                have hr := hr3
                refine lv_iadd hx hb dX11_tells_223 ?_
                obtain ⟨M_23, hc224, hr⟩ := ob1_e hr
                refine xk_v (va_runV (As := [.int x1, .int (12 : Int32), .int (r_21 + y_22)]) (rest := []) ⟨hx, hb, hml, hown, hts⟩ (c_X11_lay l D cA ad M_20 x1 (12 : Int32) (r_21 + y_22) hc224) (cwV 3 hts gX11_tells_X11_lay rfl rfl rfl (by decide +kernel) ⟨Nat.le_of_ble_eq_true rfl, Nat.le_of_ble_eq_true rfl⟩) (xpreV hK hW (k := 0) rfl (by decide) rfl) rfl rfl hl.1 rfl (lv_room (Nat.le_of_ble_eq_true rfl)) dX11_tells_224 ⟨Nat.le_of_ble_eq_true rfl, Nat.le_of_ble_eq_true rfl⟩) hW (fun H locs hW => ?_)
                rw [← Option.some.inj hr]
                exact xvret hx hb hr0 hlocks hW adR_rf dX11_tells_227
              clear hr3
              refine lv_icmp_ne (tgt := 222) hx hb dX11_tells_215 (by decide) (fun c1 => ?_) (fun c1 => ?_)
              · have hr := br_n c1 hr
                refine lv_iconst (v := (0 : Int32)) hx hb dX11_tells_222 (by decide) ?_
                have e1 := Option.some.inj hr
                subst e1
                exact hj223_22 _ _ _ hW (lv_sub hl [] rfl)
              · have hr := br_p c1 hr
                refine lv_iconst (v := (1 : Int32)) hx hb dX11_tells_218 (by decide) ?_
                refine lv_goto (tgt := 223) hx hb dX11_tells_219 (by decide) ?_
                have e1 := Option.some.inj hr
                subst e1
                exact hj223_22 _ _ _ hW (lv_sub hl [] rfl)
            clear hr3
            refine lv_icmp_ne (tgt := 192) hx hb dX11_tells_185 (by decide) (fun c1 => ?_) (fun c1 => ?_)
            · have hr := br_n c1 hr
              refine lv_iconst (v := (0 : Int32)) hx hb dX11_tells_192 (by decide) ?_
              have e1 := Option.some.inj hr
              subst e1
              exact hj193_19 _ _ _ hW (lv_sub hl [0, 1] rfl)
            · have hr := br_p c1 hr
              refine lv_iconst (v := (1 : Int32)) hx hb dX11_tells_188 (by decide) ?_
              refine lv_goto (tgt := 193) hx hb dX11_tells_189 (by decide) ?_
              have e1 := Option.some.inj hr
              subst e1
              exact hj193_19 _ _ _ hW (lv_sub hl [0, 1] rfl)
          clear hr3
          refine lv_if_eq (tgt := 155) hx hb dX11_tells_148 (by decide) (fun c1 => ?_) (fun c1 => ?_)
          · have hr := br_p c1 hr
            refine lv_aload_n hx hb dX11_tells_155 rfl (lv_at hl 1 rfl) ?_
            refine lv_iload_n hx hb dX11_tells_156 rfl (lv_at hl 2 rfl) ?_
            refine lv_bipush (v := (10 : Int32)) hx hb dX11_tells_157 (by decide) ?_
            obtain ⟨r_16, hc159, hr⟩ := ob1_e hr
            refine xk_i (va_runV (As := [.int x1, .int (10 : Int32)]) (rest := [.int (10 : Int32), .int x1, .ref (ad 0)]) ⟨hx, hb, hml, hown, hts⟩ (c_X11_of l D cA ad M_14 x1 (10 : Int32) hc159) (cwV 2 hts gX11_tells_X11_of rfl rfl rfl (by decide +kernel) ⟨Nat.le_of_ble_eq_true rfl, Nat.le_of_ble_eq_true rfl⟩) (xpreV hK hW (k := 0) rfl (by decide) rfl) rfl rfl hl.1 rfl (lv_room (Nat.le_of_ble_eq_true rfl)) dX11_tells_159 ⟨Nat.le_of_ble_eq_true rfl, Nat.le_of_ble_eq_true rfl⟩) hW (fun H locs hW => ?_)
            refine lv_iconst (v := (1 : Int32)) hx hb dX11_tells_162 (by decide) ?_
            refine lv_iadd hx hb dX11_tells_163 ?_
            have e1 := Option.some.inj hr
            subst e1
            exact hj164_15 _ _ _ hW (lv_sub hl [1, 2] rfl)
          · have hr := br_n c1 hr
            refine lv_iconst (v := (0 : Int32)) hx hb dX11_tells_151 (by decide) ?_
            refine lv_goto (tgt := 164) hx hb dX11_tells_152 (by decide) ?_
            have e1 := Option.some.inj hr
            subst e1
            exact hj164_15 _ _ _ hW (lv_sub hl [1, 2] rfl)
        clear hr3
        refine lv_if_eq (tgt := 138) hx hb dX11_tells_116 (by decide) (fun c1 => ?_) (fun c1 => ?_)
        · have hr := br_p c1 hr
          refine lv_ldc (v := (-2000000005 : Int32)) hx hb hown (hts _ (wm 8 rfl)) dX11_tells_138 ?_
          have e1 := Option.some.inj hr
          subst e1
          exact hj140_13 _ _ _ hW (lv_sub hl [0, 1, 2] rfl)
        · have hr := br_n c1 hr
          refine lv_aload_n hx hb dX11_tells_119 rfl (lv_at hl 1 rfl) ?_
          refine g11_14 hx hb hts hi11 hown hK hW (k := 0) rfl (hts _ (wm 7 rfl)) dX11_tells_120 ?_
          refine lv_iload_n hx hb dX11_tells_123 rfl (lv_at hl 2 rfl) ?_
          obtain ⟨hn124, hr⟩ := chk_e hr
          refine xzald hx hb hK hW (k := 13) (t := 30) rfl (by decide) (by decide) rfl (n := 4) hn124 (jx := (ix x1)) rfl dX11_tells_124 ?_
          refine lv_if_eq (tgt := 138) hx hb dX11_tells_125 (by decide) (fun c1 => ?_) (fun c1 => ?_)
          · have hr := br_p c1 hr
            refine lv_ldc (v := (-2000000005 : Int32)) hx hb hown (hts _ (wm 8 rfl)) dX11_tells_138 ?_
            have e1 := Option.some.inj hr
            subst e1
            exact hj140_13 _ _ _ hW (lv_sub hl [0, 1, 2] rfl)
          · have hr := br_n c1 hr
            refine lv_aload_n hx hb dX11_tells_128 rfl (lv_at hl 1 rfl) ?_
            refine g11_13 hx hb hts hi11 hown hK hW (k := 0) rfl (hts _ (wm 3 rfl)) dX11_tells_129 ?_
            refine lv_iload_n hx hb dX11_tells_132 rfl (lv_at hl 2 rfl) ?_
            obtain ⟨hn133, hr⟩ := chk_e hr
            refine xlald hx hb hK hW (k := 12) (t := 43) rfl (by decide) (by decide) rfl (n := 4) hn133 (jx := (ix x1)) rfl dX11_tells_133 ?_
            refine lv_l2i hx hb dX11_tells_134 rfl ?_
            refine lv_goto (tgt := 140) hx hb dX11_tells_135 (by decide) ?_
            have e1 := Option.some.inj hr
            subst e1
            exact hj140_13 _ _ _ hW (lv_sub hl [0, 1, 2] rfl)
      clear hr3
      refine lv_if_eq (tgt := 95) hx hb dX11_tells_54 (by decide) (fun c1 => ?_) (fun c1 => ?_)
      · have hr := br_p c1 hr
        have e1 := Option.some.inj hr
        subst e1
        exact hj95_9 _ _ _ hW (lv_sub hl [0, 1, 2] rfl)
      · have hr := br_n c1 hr
        refine lv_aload_n hx hb dX11_tells_57 rfl (lv_at hl 1 rfl) ?_
        refine g11_19 hx hb hts hi11 hown hK hW (k := 0) rfl (hts _ (wm 2 rfl)) dX11_tells_58 ?_
        refine lv_lconst (v := (0 : Int64)) hx hb dX11_tells_61 (by decide) ?_
        refine xlc_eq (tgt := 95) hx hb dX11_tells_62 dX11_tells_63 (by decide) (fun c1 => ?_) (fun c1 => ?_)
        · have hr := br_p c1 hr
          have e1 := Option.some.inj hr
          subst e1
          exact hj95_9 _ _ _ hW (lv_sub hl [0, 1, 2] rfl)
        · have hr := br_n c1 hr
          refine lv_aload_n hx hb dX11_tells_66 rfl (lv_at hl 1 rfl) ?_
          refine lv_iload_n hx hb dX11_tells_67 rfl (lv_at hl 2 rfl) ?_
          refine lv_bipush (v := (7 : Int32)) hx hb dX11_tells_68 (by decide) ?_
          refine lv_aload_n hx hb dX11_tells_70 rfl (lv_at hl 1 rfl) ?_
          refine g11_13 hx hb hts hi11 hown hK hW (k := 0) rfl (hts _ (wm 3 rfl)) dX11_tells_71 ?_
          refine lv_iload_n hx hb dX11_tells_74 rfl (lv_at hl 2 rfl) ?_
          obtain ⟨hn75, hr⟩ := chk_e hr
          refine xlald hx hb hK hW (k := 12) (t := 43) rfl (by decide) (by decide) rfl (n := 4) hn75 (jx := (ix x1)) rfl dX11_tells_75 ?_
          refine lv_ldc2 (v := (1000 : Int64)) hx hb hown (hts _ (wm 4 rfl)) dX11_tells_76 ?_
          refine lv_lmul hx hb dX11_tells_79 ?_
          refine lv_aload_n hx hb dX11_tells_80 rfl (lv_at hl 1 rfl) ?_
          refine g11_19 hx hb hts hi11 hown hK hW (k := 0) rfl (hts _ (wm 2 rfl)) dX11_tells_81 ?_
          obtain ⟨hc84, hr⟩ := chk_e hr
          refine lv_ldiv hx hb dX11_tells_84 (of_decide_eq_true hc84) ?_
          refine lv_ldc2 (v := (5000 : Int64)) hx hb hown (hts _ (wm 5 rfl)) dX11_tells_85 ?_
          obtain ⟨r_10, hc88, hr⟩ := ob1_e hr
          refine xk_l (va_runS (As := [.long (((gJ M_2 12 (ix x1)) * (1000 : Int64)) / (gJ M_2 0 19)), .long (5000 : Int64)]) (rest := [.int (7 : Int32), .int x1, .ref (ad 0)]) ⟨hx, hb, hml, hown, hts⟩ (c_X11_held l D cA ad M_2 (((gJ M_2 12 (ix x1)) * (1000 : Int64)) / (gJ M_2 0 19)) (5000 : Int64) hc88) (va_cwS 2 hts gX11_tells_X11_held rfl rfl rfl (by decide +kernel) ⟨Nat.le_of_ble_eq_true rfl, Nat.le_of_ble_eq_true rfl⟩) (xpreS hK hW) rfl rfl hl.1 rfl (lv_room (Nat.le_of_ble_eq_true rfl)) dX11_tells_88 ⟨Nat.le_of_ble_eq_true rfl, Nat.le_of_ble_eq_true rfl⟩) hW (fun H locs hW => ?_)
          refine lv_l2i hx hb dX11_tells_91 rfl ?_
          obtain ⟨M_11, hc92, hr⟩ := ob1_e hr
          refine xk_v (va_runV (As := [.int x1, .int (7 : Int32), .int (Int64.toInt32 r_10)]) (rest := []) ⟨hx, hb, hml, hown, hts⟩ (c_X11_lay l D cA ad M_2 x1 (7 : Int32) (Int64.toInt32 r_10) hc92) (cwV 3 hts gX11_tells_X11_lay rfl rfl rfl (by decide +kernel) ⟨Nat.le_of_ble_eq_true rfl, Nat.le_of_ble_eq_true rfl⟩) (xpreV hK hW (k := 0) rfl (by decide) rfl) rfl rfl hl.1 rfl (lv_room (Nat.le_of_ble_eq_true rfl)) dX11_tells_92 ⟨Nat.le_of_ble_eq_true rfl, Nat.le_of_ble_eq_true rfl⟩) hW (fun H locs hW => ?_)
          have e1 := Option.some.inj hr
          subst e1
          exact hj95_9 _ _ _ hW (lv_sub hl [0, 1, 2] rfl)
    clear hr3
    refine lv_if_eq (tgt := 53) hx hb dX11_tells_17 (by decide) (fun c1 => ?_) (fun c1 => ?_)
    · have hr := br_p c1 hr
      have e1 := Option.some.inj hr
      subst e1
      exact hj53_2 _ _ _ hW (lv_sub hl [0, 1, 2] rfl)
    · have hr := br_n c1 hr
      refine lv_aload_n hx hb dX11_tells_20 rfl (lv_at hl 1 rfl) ?_
      refine lv_iload_n hx hb dX11_tells_21 rfl (lv_at hl 2 rfl) ?_
      refine lv_iconst (v := (0 : Int32)) hx hb dX11_tells_22 (by decide) ?_
      obtain ⟨r_3, hc23, hr⟩ := ob1_e hr
      refine xk_l (va_runV (As := [.int x1, .int (0 : Int32)]) (rest := []) ⟨hx, hb, hml, hown, hts⟩ (c_X11_timeOf l D cA ad M x1 (0 : Int32) hc23) (cwV 2 hts gX11_tells_X11_timeOf rfl rfl rfl (by decide +kernel) ⟨Nat.le_of_ble_eq_true rfl, Nat.le_of_ble_eq_true rfl⟩) (xpreV hK hW (k := 0) rfl (by decide) rfl) rfl rfl hl.1 rfl (lv_room (Nat.le_of_ble_eq_true rfl)) dX11_tells_23 ⟨Nat.le_of_ble_eq_true rfl, Nat.le_of_ble_eq_true rfl⟩) hW (fun H locs hW => ?_)
      refine lv_l2i hx hb dX11_tells_26 rfl ?_
      obtain ⟨x3_4, ex3_4, hr⟩ := lt1_e hr
      rw [← ex3_4]
      refine lv_istore_n (lv' := [(3, .int x3_4), (2, .int y_1), (0, .ref (ad 0)), (1, .int x1)]) hx hb dX11_tells_27 rfl hl (by decide) rfl (fun ls hl => ?_)
      refine lv_aload_n hx hb dX11_tells_28 rfl (lv_at hl 2 rfl) ?_
      refine lv_iload_n hx hb dX11_tells_29 rfl (lv_at hl 3 rfl) ?_
      refine lv_iconst (v := (1 : Int32)) hx hb dX11_tells_30 (by decide) ?_
      obtain ⟨r_5, hc31, hr⟩ := ob1_e hr
      refine xk_l (va_runV (As := [.int x1, .int (1 : Int32)]) (rest := []) ⟨hx, hb, hml, hown, hts⟩ (c_X11_timeOf l D cA ad M x1 (1 : Int32) hc31) (cwV 2 hts gX11_tells_X11_timeOf rfl rfl rfl (by decide +kernel) ⟨Nat.le_of_ble_eq_true rfl, Nat.le_of_ble_eq_true rfl⟩) (xpreV hK hW (k := 0) rfl (by decide) rfl) rfl rfl hl.1 rfl (lv_room (Nat.le_of_ble_eq_true rfl)) dX11_tells_31 ⟨Nat.le_of_ble_eq_true rfl, Nat.le_of_ble_eq_true rfl⟩) hW (fun H locs hW => ?_)
      refine lv_l2i hx hb dX11_tells_34 rfl ?_
      obtain ⟨x4_6, ex4_6, hr⟩ := lt1_e hr
      rw [← ex4_6]
      refine lv_istore (lv' := [(4, .int x4_6), (3, .int x3_4), (2, .int y_1), (0, .ref (ad 0)), (1, .int x1)]) hx hb dX11_tells_35 hl (by decide) rfl (fun ls hl => ?_)
      refine lv_aload_n hx hb dX11_tells_37 rfl (lv_at hl 3 rfl) ?_
      refine lv_iload_n hx hb dX11_tells_38 rfl (lv_at hl 4 rfl) ?_
      refine lv_iconst (v := (5 : Int32)) hx hb dX11_tells_39 (by decide) ?_
      refine lv_iload_n hx hb dX11_tells_40 rfl (lv_at hl 1 rfl) ?_
      obtain ⟨M_7, hc41, hr⟩ := ob1_e hr
      refine xk_v (va_runV (As := [.int x1, .int (5 : Int32), .int x3_4]) (rest := []) ⟨hx, hb, hml, hown, hts⟩ (c_X11_lay l D cA ad M x1 (5 : Int32) x3_4 hc41) (cwV 3 hts gX11_tells_X11_lay rfl rfl rfl (by decide +kernel) ⟨Nat.le_of_ble_eq_true rfl, Nat.le_of_ble_eq_true rfl⟩) (xpreV hK hW (k := 0) rfl (by decide) rfl) rfl rfl hl.1 rfl (lv_room (Nat.le_of_ble_eq_true rfl)) dX11_tells_41 ⟨Nat.le_of_ble_eq_true rfl, Nat.le_of_ble_eq_true rfl⟩) hW (fun H locs hW => ?_)
      refine lv_aload_n hx hb dX11_tells_44 rfl (lv_at hl 3 rfl) ?_
      refine lv_iload_n hx hb dX11_tells_45 rfl (lv_at hl 4 rfl) ?_
      refine lv_bipush (v := (6 : Int32)) hx hb dX11_tells_46 (by decide) ?_
      refine lv_iload hx hb dX11_tells_48 (lv_at hl 0 rfl) ?_
      obtain ⟨M_8, hc50, hr⟩ := ob1_e hr
      refine xk_v (va_runV (As := [.int x1, .int (6 : Int32), .int x4_6]) (rest := []) ⟨hx, hb, hml, hown, hts⟩ (c_X11_lay l D cA ad M_7 x1 (6 : Int32) x4_6 hc50) (cwV 3 hts gX11_tells_X11_lay rfl rfl rfl (by decide +kernel) ⟨Nat.le_of_ble_eq_true rfl, Nat.le_of_ble_eq_true rfl⟩) (xpreV hK hW (k := 0) rfl (by decide) rfl) rfl rfl hl.1 rfl (lv_room (Nat.le_of_ble_eq_true rfl)) dX11_tells_50 ⟨Nat.le_of_ble_eq_true rfl, Nat.le_of_ble_eq_true rfl⟩) hW (fun H locs hW => ?_)
      have e1 := Option.some.inj hr
      subst e1
      exact hj53_2 _ _ _ hW (lv_sub hl [2, 3, 4] rfl)
  clear hr3
  refine lv_icmp_lt (tgt := 14) hx hb dX11_tells_7 (by decide) (fun c1 => ?_) (fun c1 => ?_)
  · have hr := br_p c1 hr
    refine lv_iconst (v := (0 : Int32)) hx hb dX11_tells_14 (by decide) ?_
    have e1 := Option.some.inj hr
    subst e1
    exact hj15_1 _ _ _ hW (lv_sub hl [0, 1] rfl)
  · have hr := br_n c1 hr
    refine lv_iconst (v := (1 : Int32)) hx hb dX11_tells_10 (by decide) ?_
    refine lv_goto (tgt := 15) hx hb dX11_tells_11 (by decide) ?_
    have e1 := Option.some.inj hr
    subst e1
    exact hj15_1 _ _ _ hW (lv_sub hl [0, 1] rfl)

set_option maxHeartbeats 4000000 in
set_option maxRecDepth 100000 in
theorem c_X11_keeps (l : Launch) (D : va_G) (cA : Nat → ClassId) (ad : Nat → Nat) (M : Mm) (x1 : Int32) (x2 : Int32) {M' : Mm} (hr : f_X11_keeps x1 x2 M = some M') : Met l yX11_keeps wsX11_keeps ({ frames := 0, cells := 0, slots := 0, locals := 0 }) (PcX D false cA ad M [.ref (ad 0), .int x1, .int x2]) (QvX false D false cA ad M') 0 0 (AX false ad) := by
  refine Met.ofW (cc := cX11_keeps) (maxL := 4) (ret := none) (by decide) rfl ?_
  intro p e s m args below meth c s₁ B hml hv
  obtain ⟨hav, hP0, hK⟩ := hv
  have hx := B.exec
  have hb := B.bytes
  have hr0 := B.returns
  have hts := atoms_spec (ws := wsX11_keeps) B.pre
  have hown : s.vm.findClass RX11 = some m.cls := findClass_of_methodNamed B.named
  have hlocks := B.notSynchronized
  have hW := xstart hP0
  have hi11 : ∀ w ∈ wsX110, w ∈ wsX11_keeps := fun w h => List.mem_cons_of_mem _ (List.mem_append_right _ h)
  have hl := lv_entry ([.ref (ad 0), .int x1, .int x2]) (n := 4) (Nat.le_of_ble_eq_true rfl)
  have hef := lg_entry_eq m ([.ref (ad 0), .int x1, .int x2]) 4
  rw [← hav] at hef
  rw [hef]
  clear hef
  generalize (lg_sl ([.ref (ad 0), .int x1, .int x2]) ++ List.replicate (4 - (lg_sl ([.ref (ad 0), .int x1, .int x2])).length) Slot.unset).toArray = ls at hl ⊢
  have hl : lv_has ls 4 [(0, .ref (ad 0)), (1, .int x1), (2, .int x2)] := hl
  clear hP0
  unfold f_X11_keeps at hr
  refine lv_bipush (v := (71 : Int32)) hx hb dX11_keeps_0 (by decide) ?_
  refine lv_istore_n (lv' := [(3, .int (71 : Int32)), (0, .ref (ad 0)), (1, .int x1), (2, .int x2)]) hx hb dX11_keeps_2 rfl hl (by decide) rfl (fun ls hl => ?_)
  have hL3_1 : ∀ (n : Nat) (x3_1 : Int32) (M_2 : Mm) (H : Heap) (locs : List Loc) (ls : Array Slot) (M_3 : Mm), Xw D false cA ad M_2 (AX false ad) s.heap H locs → lv_has ls 4 [(0, .ref (ad 0)), (1, .int x1), (2, .int x2), (3, .int x3_1)] → f_X11_keeps_L3 n x3_1 M_2 = some M_3 → (∀ (H : Heap) (locs : List Loc) (ls : Array Slot), Xw D false cA ad M_3 (AX false ad) s.heap H locs → lv_has ls 4 [(0, .ref (ad 0)), (1, .int x1), (2, .int x2)] → W p l e (headSpec wsX11_keeps { frames := 0, cells := 0, slots := 0, locals := 0 }).room s m args below meth c H locs 0 0 (MQ below (QvX false D false cA ad M') args s 0 0 (AX false ad)) (F0 m 36 ls [])) → W p l e (headSpec wsX11_keeps { frames := 0, cells := 0, slots := 0, locals := 0 }).room s m args below meth c H locs 0 0 (MQ below (QvX false D false cA ad M') args s 0 0 (AX false ad)) (F0 m 3 ls []) := by
    intro n
    induction n with
    | zero =>
      intro x3_1 M_2 H locs ls M_3 hW hl hr hk
      exact absurd hr (by simp [f_X11_keeps_L3])
    | succ n ih =>
      intro x3_1 M_2 H locs ls M_3 hW hl hr hk
      rw [f_X11_keeps_L3] at hr
      refine lv_iload_n hx hb dX11_keeps_3 rfl (lv_at hl 3 rfl) ?_
      refine lv_bipush (v := (6 : Int32)) hx hb dX11_keeps_4 (by decide) ?_
      refine lv_icmp_lt (tgt := 36) hx hb dX11_keeps_6 (by decide) (fun c1 => ?_) (fun c1 => ?_)
      · have hr := br_p c1 hr
        have e1 := Option.some.inj hr
        subst e1
        exact hk _ _ _ hW (lv_sub hl [0, 1, 2] rfl)
      · have hr := br_n c1 hr
        refine lv_aload_n hx hb dX11_keeps_9 rfl (lv_at hl 0 rfl) ?_
        refine g11_0 hx hb hts hi11 hown hK hW (k := 0) rfl (hts _ (wm 1 rfl)) dX11_keeps_10 ?_
        refine lv_bipush (v := (87 : Int32)) hx hb dX11_keeps_13 (by decide) ?_
        refine lv_iload_n hx hb dX11_keeps_15 rfl (lv_at hl 3 rfl) ?_
        refine lv_iadd hx hb dX11_keeps_16 ?_
        refine lv_aload_n hx hb dX11_keeps_17 rfl (lv_at hl 0 rfl) ?_
        refine g11_0 hx hb hts hi11 hown hK hW (k := 0) rfl (hts _ (wm 1 rfl)) dX11_keeps_18 ?_
        refine lv_bipush (v := (87 : Int32)) hx hb dX11_keeps_21 (by decide) ?_
        refine lv_iload_n hx hb dX11_keeps_23 rfl (lv_at hl 3 rfl) ?_
        refine lv_iadd hx hb dX11_keeps_24 ?_
        refine lv_bipush (v := (6 : Int32)) hx hb dX11_keeps_25 (by decide) ?_
        refine lv_isub hx hb dX11_keeps_27 ?_
        obtain ⟨hn28, hr⟩ := chk_e hr
        refine xiald hx hb hK hW (k := 1) (t := 24) rfl (by decide) (by decide) rfl (n := 159) hn28 (jx := (ix (((87 : Int32) + x3_1) - (6 : Int32)))) rfl dX11_keeps_28 ?_
        obtain ⟨hn29, hr⟩ := chk_e hr
        obtain ⟨M_4, eM_4, hr⟩ := lt1_e hr
        refine xiast hx hb hK hW (k := 1) (t := 24) rfl (by decide) (by decide) rfl (n := 159) hn29 (jx := (ix ((87 : Int32) + x3_1))) rfl dX11_keeps_29 (fun H locs hW => ?_)
        rw [← eM_4] at hW
        obtain ⟨x3_5, ex3_5, hr⟩ := lt1_e hr
        refine lv_iinc (v := x3_5) (lv' := [(3, .int x3_5), (0, .ref (ad 0)), (1, .int x1), (2, .int x2)]) hx hb dX11_keeps_30 hl (k := 3) rfl (by rw [ex3_5]; rfl) (by decide) rfl (fun ls hl => ?_)
        refine lv_goto (tgt := 3) hx hb dX11_keeps_33 (by decide) ?_
        exact ih x3_5 M_4 _ _ _ _ hW (lv_sub hl [1, 2, 3, 0] rfl) hr hk
  obtain ⟨M_3, hr, hr3⟩ := ob1_e hr
  refine hL3_1 1000 (71 : Int32) M _ _ _ M_3 hW (lv_sub hl [1, 2, 3, 0] rfl) hr (fun H locs ls hW hl => ?_)
  clear hr
  have hr := hr3
  refine lv_aload_n hx hb dX11_keeps_36 rfl (lv_at hl 0 rfl) ?_
  refine g11_0 hx hb hts hi11 hown hK hW (k := 0) rfl (hts _ (wm 1 rfl)) dX11_keeps_37 ?_
  refine lv_bipush (v := (87 : Int32)) hx hb dX11_keeps_40 (by decide) ?_
  refine lv_iload_n hx hb dX11_keeps_42 rfl (lv_at hl 1 rfl) ?_
  obtain ⟨y_6, hr, hr3⟩ := ob1_e hr
  have hj52_6 : ∀ (H : Heap) (locs : List Loc) (ls : Array Slot), Xw D false cA ad M_3 (AX false ad) s.heap H locs → lv_has ls 4 [(0, .ref (ad 0)), (1, .int x1)] → W p l e (headSpec wsX11_keeps { frames := 0, cells := 0, slots := 0, locals := 0 }).room s m args below meth c H locs 0 0 (MQ below (QvX false D false cA ad M') args s 0 0 (AX false ad)) (F0 m 52 ls [.int y_6, .int (87 : Int32), .ref (ad 1)]) := by
    intro H locs ls hW hl
    have hr := hr3
    obtain ⟨M_7, eM_7, hr⟩ := lt1_e hr
    refine xiast hx hb hK hW (k := 1) (t := 24) rfl (by decide) (by decide) rfl (n := 159) (by decide) (jx := 87) (by decide) dX11_keeps_52 (fun H locs hW => ?_)
    rw [← eM_7] at hW
    refine lv_aload_n hx hb dX11_keeps_53 rfl (lv_at hl 0 rfl) ?_
    refine g11_0 hx hb hts hi11 hown hK hW (k := 0) rfl (hts _ (wm 1 rfl)) dX11_keeps_54 ?_
    refine lv_bipush (v := (88 : Int32)) hx hb dX11_keeps_57 (by decide) ?_
    refine lv_iload_n hx hb dX11_keeps_59 rfl (lv_at hl 1 rfl) ?_
    obtain ⟨y_8, hr, hr3⟩ := ob1_e hr
    have hj73_8 : ∀ (H : Heap) (locs : List Loc) (ls : Array Slot), Xw D false cA ad M_7 (AX false ad) s.heap H locs → lv_has ls 4 [(0, .ref (ad 0))] → W p l e (headSpec wsX11_keeps { frames := 0, cells := 0, slots := 0, locals := 0 }).room s m args below meth c H locs 0 0 (MQ below (QvX false D false cA ad M') args s 0 0 (AX false ad)) (F0 m 73 ls [.int y_8, .int (88 : Int32), .ref (ad 1)]) := by
      intro H locs ls hW hl
      have hr := hr3
      obtain ⟨M_9, eM_9, hr⟩ := lt1_e hr
      refine xiast hx hb hK hW (k := 1) (t := 24) rfl (by decide) (by decide) rfl (n := 159) (by decide) (jx := 88) (by decide) dX11_keeps_73 (fun H locs hW => ?_)
      rw [← eM_9] at hW
      refine lv_aload_n hx hb dX11_keeps_74 rfl (lv_at hl 0 rfl) ?_
      refine g11_0 hx hb hts hi11 hown hK hW (k := 0) rfl (hts _ (wm 1 rfl)) dX11_keeps_75 ?_
      refine lv_bipush (v := (89 : Int32)) hx hb dX11_keeps_78 (by decide) ?_
      refine lv_aload_n hx hb dX11_keeps_80 rfl (lv_at hl 0 rfl) ?_
      refine g11_16 hx hb hts hi11 hown hK hW (k := 0) rfl (hts _ (wm 4 rfl)) dX11_keeps_81 ?_
      obtain ⟨M_10, eM_10, hr⟩ := lt1_e hr
      refine xiast hx hb hK hW (k := 1) (t := 24) rfl (by decide) (by decide) rfl (n := 159) (by decide) (jx := 89) (by decide) dX11_keeps_84 (fun H locs hW => ?_)
      rw [← eM_10] at hW
      refine lv_aload_n hx hb dX11_keeps_85 rfl (lv_at hl 0 rfl) ?_
      refine g11_0 hx hb hts hi11 hown hK hW (k := 0) rfl (hts _ (wm 1 rfl)) dX11_keeps_86 ?_
      refine lv_bipush (v := (90 : Int32)) hx hb dX11_keeps_89 (by decide) ?_
      refine lv_aload_n hx hb dX11_keeps_91 rfl (lv_at hl 0 rfl) ?_
      refine g11_17 hx hb hts hi11 hown hK hW (k := 0) rfl (hts _ (wm 5 rfl)) dX11_keeps_92 ?_
      obtain ⟨M_11, eM_11, hr⟩ := lt1_e hr
      refine xiast hx hb hK hW (k := 1) (t := 24) rfl (by decide) (by decide) rfl (n := 159) (by decide) (jx := 90) (by decide) dX11_keeps_95 (fun H locs hW => ?_)
      rw [← eM_11] at hW
      refine lv_aload_n hx hb dX11_keeps_96 rfl (lv_at hl 0 rfl) ?_
      refine g11_0 hx hb hts hi11 hown hK hW (k := 0) rfl (hts _ (wm 1 rfl)) dX11_keeps_97 ?_
      refine lv_bipush (v := (91 : Int32)) hx hb dX11_keeps_100 (by decide) ?_
      refine lv_aload_n hx hb dX11_keeps_102 rfl (lv_at hl 0 rfl) ?_
      refine g11_18 hx hb hts hi11 hown hK hW (k := 0) rfl (hts _ (wm 6 rfl)) dX11_keeps_103 ?_
      obtain ⟨M_12, eM_12, hr⟩ := lt1_e hr
      refine xiast hx hb hK hW (k := 1) (t := 24) rfl (by decide) (by decide) rfl (n := 159) (by decide) (jx := 91) (by decide) dX11_keeps_106 (fun H locs hW => ?_)
      rw [← eM_12] at hW
      refine lv_aload_n hx hb dX11_keeps_107 rfl (lv_at hl 0 rfl) ?_
      refine g11_0 hx hb hts hi11 hown hK hW (k := 0) rfl (hts _ (wm 1 rfl)) dX11_keeps_108 ?_
      refine lv_bipush (v := (92 : Int32)) hx hb dX11_keeps_111 (by decide) ?_
      refine lv_aload_n hx hb dX11_keeps_113 rfl (lv_at hl 0 rfl) ?_
      refine g11_15 hx hb hts hi11 hown hK hW (k := 0) rfl (hts _ (wm 7 rfl)) dX11_keeps_114 ?_
      obtain ⟨M_13, eM_13, hr⟩ := lt1_e hr
      refine xiast hx hb hK hW (k := 1) (t := 24) rfl (by decide) (by decide) rfl (n := 159) (by decide) (jx := 92) (by decide) dX11_keeps_117 (fun H locs hW => ?_)
      rw [← eM_13] at hW
      refine lv_aload_n hx hb dX11_keeps_118 rfl (lv_at hl 0 rfl) ?_
      refine g11_0 hx hb hts hi11 hown hK hW (k := 0) rfl (hts _ (wm 1 rfl)) dX11_keeps_119 ?_
      refine lv_bipush (v := (86 : Int32)) hx hb dX11_keeps_122 (by decide) ?_
      refine lv_dup2_11 hx hb dX11_keeps_124 rfl rfl ?_
      refine xiald hx hb hK hW (k := 1) (t := 24) rfl (by decide) (by decide) rfl (n := 159) (by decide) (jx := 86) (by decide) dX11_keeps_125 ?_
      refine lv_aload_n hx hb dX11_keeps_126 rfl (lv_at hl 0 rfl) ?_
      refine g11_0 hx hb hts hi11 hown hK hW (k := 0) rfl (hts _ (wm 1 rfl)) dX11_keeps_127 ?_
      refine lv_bipush (v := (86 : Int32)) hx hb dX11_keeps_130 (by decide) ?_
      refine xiald hx hb hK hW (k := 1) (t := 24) rfl (by decide) (by decide) rfl (n := 159) (by decide) (jx := 86) (by decide) dX11_keeps_132 ?_
      refine lv_bipush (v := (12 : Int32)) hx hb dX11_keeps_133 (by decide) ?_
      obtain ⟨y_14, hr, hr3⟩ := ob1_e hr
      have hj143_14 : ∀ (H : Heap) (locs : List Loc) (ls : Array Slot), Xw D false cA ad M_13 (AX false ad) s.heap H locs → lv_has ls 4 [] → W p l e (headSpec wsX11_keeps { frames := 0, cells := 0, slots := 0, locals := 0 }).room s m args below meth c H locs 0 0 (MQ below (QvX false D false cA ad M') args s 0 0 (AX false ad)) (F0 m 143 ls [.int y_14, .int (gI M_13 1 86), .int (86 : Int32), .ref (ad 1)]) := by
        intro H locs ls hW hl
        have hr := hr3
        refine lv_iadd hx hb dX11_keeps_143 ?_
        obtain ⟨M_15, eM_15, hr⟩ := lt1_e hr
        refine xiast hx hb hK hW (k := 1) (t := 24) rfl (by decide) (by decide) rfl (n := 159) (by decide) (jx := 86) (by decide) dX11_keeps_144 (fun H locs hW => ?_)
        rw [← eM_15] at hW
        rw [← Option.some.inj hr]
        exact xvret hx hb hr0 hlocks hW adR_rf dX11_keeps_145
      clear hr3
      refine lv_icmp_ge (tgt := 142) hx hb dX11_keeps_135 (by decide) (fun c1 => ?_) (fun c1 => ?_)
      · have hr := br_p c1 hr
        refine lv_iconst (v := (0 : Int32)) hx hb dX11_keeps_142 (by decide) ?_
        have e1 := Option.some.inj hr
        subst e1
        exact hj143_14 _ _ _ hW (lv_sub hl [] rfl)
      · have hr := br_n c1 hr
        refine lv_iconst (v := (1 : Int32)) hx hb dX11_keeps_138 (by decide) ?_
        refine lv_goto (tgt := 143) hx hb dX11_keeps_139 (by decide) ?_
        have e1 := Option.some.inj hr
        subst e1
        exact hj143_14 _ _ _ hW (lv_sub hl [] rfl)
    clear hr3
    refine lv_if_eq (tgt := 71) hx hb dX11_keeps_60 (by decide) (fun c1 => ?_) (fun c1 => ?_)
    · have hr := br_p c1 hr
      refine lv_ldc (v := (-2000000005 : Int32)) hx hb hown (hts _ (wm 2 rfl)) dX11_keeps_71 ?_
      have e1 := Option.some.inj hr
      subst e1
      exact hj73_8 _ _ _ hW (lv_sub hl [0] rfl)
    · have hr := br_n c1 hr
      refine lv_aload_n hx hb dX11_keeps_63 rfl (lv_at hl 0 rfl) ?_
      refine g11_19 hx hb hts hi11 hown hK hW (k := 0) rfl (hts _ (wm 3 rfl)) dX11_keeps_64 ?_
      refine lv_l2i hx hb dX11_keeps_67 rfl ?_
      refine lv_goto (tgt := 73) hx hb dX11_keeps_68 (by decide) ?_
      have e1 := Option.some.inj hr
      subst e1
      exact hj73_8 _ _ _ hW (lv_sub hl [0] rfl)
  clear hr3
  refine lv_if_eq (tgt := 50) hx hb dX11_keeps_43 (by decide) (fun c1 => ?_) (fun c1 => ?_)
  · have hr := br_p c1 hr
    refine lv_ldc (v := (-2000000005 : Int32)) hx hb hown (hts _ (wm 2 rfl)) dX11_keeps_50 ?_
    have e1 := Option.some.inj hr
    subst e1
    exact hj52_6 _ _ _ hW (lv_sub hl [0, 1] rfl)
  · have hr := br_n c1 hr
    refine lv_iload_n hx hb dX11_keeps_46 rfl (lv_at hl 2 rfl) ?_
    refine lv_goto (tgt := 52) hx hb dX11_keeps_47 (by decide) ?_
    have e1 := Option.some.inj hr
    subst e1
    exact hj52_6 _ _ _ hW (lv_sub hl [0, 1] rfl)

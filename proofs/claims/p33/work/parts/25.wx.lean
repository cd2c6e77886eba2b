set_option maxHeartbeats 4000000 in
set_option maxRecDepth 100000 in
theorem c_X10_velocity (l : Launch) (D : va_G) (cA : Nat → ClassId) (ad : Nat → Nat) (M : Mm) (x1 : Int32) (x2 : Int32) (x3 : Int32) {r : Int32} (hr : f_X10_velocity x1 x2 x3 M = some r) : Met l yX10_velocity wsX10_velocity ({ frames := 2, cells := 0, slots := 0, locals := 51 }) (PcX D true cA ad M [.ref (ad 224), .int x1, .int x2, .int x3]) (QiX false D true cA ad r M) 0 0 (AX true ad) := by
  refine Met.ofW (cc := cX10_velocity) (maxL := 5) (ret := (some .int)) (by decide) rfl ?_
  intro p e s m args below meth c s₁ B hml hv
  obtain ⟨hav, hP0, hK⟩ := hv
  have hx := B.exec
  have hb := B.bytes
  have hr0 := B.returns
  have hts := atoms_spec (ws := wsX10_velocity) B.pre
  have hown : s.vm.findClass RX10 = some m.cls := findClass_of_methodNamed B.named
  have hlocks := B.notSynchronized
  have hW := xstart hP0
  have hi10 : ∀ w ∈ wsX100, w ∈ wsX10_velocity := fun w h => List.mem_cons_of_mem _ (List.mem_append_left _ (List.mem_append_left _ (List.mem_append_right _ h)))
  have hl := lv_entry ([.ref (ad 224), .int x1, .int x2, .int x3]) (n := 5) (Nat.le_of_ble_eq_true rfl)
  have hef := lg_entry_eq m ([.ref (ad 224), .int x1, .int x2, .int x3]) 5
  rw [← hav] at hef
  rw [hef]
  clear hef
  generalize (lg_sl ([.ref (ad 224), .int x1, .int x2, .int x3]) ++ List.replicate (5 - (lg_sl ([.ref (ad 224), .int x1, .int x2, .int x3])).length) Slot.unset).toArray = ls at hl ⊢
  have hl : lv_has ls 5 [(0, .ref (ad 224)), (1, .int x1), (2, .int x2), (3, .int x3)] := hl
  clear hP0
  unfold f_X10_velocity at hr
  refine lv_aload_n hx hb dX10_velocity_0 rfl (lv_at hl 0 rfl) ?_
  refine g10_0 hx hb hts hi10 hown hK hW (k := 224) rfl (hts _ (wm 1 rfl)) dX10_velocity_1 ?_
  refine lv_iload_n hx hb dX10_velocity_4 rfl (lv_at hl 1 rfl) ?_
  obtain ⟨r_1, hc5, hr⟩ := ob1_e hr
  refine xk_q (va_runV (As := [.int x1]) (rest := []) ⟨hx, hb, hml, hown, hts⟩ (c_X8_pathAt l D cA ad M x1 hc5) (cwV 1 hts gX10_velocity_X8_pathAt rfl rfl rfl (by decide +kernel) ⟨Nat.le_of_ble_eq_true rfl, Nat.le_of_ble_eq_true rfl⟩) (xpreV hK hW (k := 0) rfl (by decide) rfl) rfl rfl hl.1 rfl (lv_room (Nat.le_of_ble_eq_true rfl)) dX10_velocity_5 ⟨Nat.le_of_ble_eq_true rfl, Nat.le_of_ble_eq_true rfl⟩) hW (fun H locs hW => ?_)
  cases r_1 with
  | none =>
    have hr : _ = _ := hr
    simp only [onl] at hr
    refine lv_astoreN (lv' := [(4, .null), (0, .ref (ad 224)), (1, .int x1), (2, .int x2), (3, .int x3)]) hx hb dX10_velocity_8 hl (by decide) rfl (fun ls hl => ?_)
    refine lv_aloadN hx hb dX10_velocity_10 (lv_at hl 0 rfl) ?_
    refine lv_ifnonnullN hx hb dX10_velocity_12 ?_
    refine lv_ldc (v := (-2000000001 : Int32)) hx hb hown (hts _ (wm 2 rfl)) dX10_velocity_15 ?_
    rw [← Option.some.inj hr]
    exact xiret hx hb hr0 hlocks hW adR_rf dX10_velocity_17
  | some k_2 =>
    simp only [onl] at hr
    obtain ⟨hk5, hr⟩ := chk_e hr
    have hk5 := of_decide_eq_true hk5
    refine lv_astore (lv' := [(4, .ref (ad k_2)), (0, .ref (ad 224)), (1, .int x1), (2, .int x2), (3, .int x3)]) hx hb dX10_velocity_8 hl (by decide) rfl (fun ls hl => ?_)
    refine lv_aload hx hb dX10_velocity_10 (lv_at hl 0 rfl) ?_
    refine lv_ifnonnull (tgt := 18) hx hb dX10_velocity_12 (by decide) ?_
    refine lv_aload hx hb dX10_velocity_18 (lv_at hl 0 rfl) ?_
    refine lv_iload_n hx hb dX10_velocity_20 rfl (lv_at hl 3 rfl) ?_
    obtain ⟨r_3, hc21, hr⟩ := ob1_e hr
    refine xk_i (va_runV (As := [.int x2]) (rest := []) ⟨hx, hb, hml, hown, hts⟩ (c_X3_canTake l D cA ad M k_2 x2 hk5 hc21) (cwV 1 hts gX10_velocity_X3_canTake rfl rfl rfl (by decide +kernel) ⟨Nat.le_of_ble_eq_true rfl, Nat.le_of_ble_eq_true rfl⟩) (xpreV hK hW (k := k_2) hk5 (by decide) rfl) rfl rfl hl.1 rfl (lv_room (Nat.le_of_ble_eq_true rfl)) dX10_velocity_21 ⟨Nat.le_of_ble_eq_true rfl, Nat.le_of_ble_eq_true rfl⟩) hW (fun H locs hW => ?_)
    refine lv_if_eq (tgt := 36) hx hb dX10_velocity_24 (by decide) (fun c1 => ?_) (fun c1 => ?_)
    · have hr := br_p c1 hr
      refine lv_ldc (v := (-2000000002 : Int32)) hx hb hown (hts _ (wm 3 rfl)) dX10_velocity_36 ?_
      rw [← Option.some.inj hr]
      exact xiret hx hb hr0 hlocks hW adR_rf dX10_velocity_38
    · have hr := br_n c1 hr
      refine lv_aload hx hb dX10_velocity_27 (lv_at hl 0 rfl) ?_
      refine lv_iload_n hx hb dX10_velocity_29 rfl (lv_at hl 4 rfl) ?_
      obtain ⟨r_4, hc30, hr⟩ := ob1_e hr
      refine xk_i (va_runV (As := [.int x3]) (rest := []) ⟨hx, hb, hml, hown, hts⟩ (c_X3_canTake l D cA ad M k_2 x3 hk5 hc30) (cwV 1 hts gX10_velocity_X3_canTake rfl rfl rfl (by decide +kernel) ⟨Nat.le_of_ble_eq_true rfl, Nat.le_of_ble_eq_true rfl⟩) (xpreV hK hW (k := k_2) hk5 (by decide) rfl) rfl rfl hl.1 rfl (lv_room (Nat.le_of_ble_eq_true rfl)) dX10_velocity_30 ⟨Nat.le_of_ble_eq_true rfl, Nat.le_of_ble_eq_true rfl⟩) hW (fun H locs hW => ?_)
      refine lv_if_ne (tgt := 39) hx hb dX10_velocity_33 (by decide) (fun c1 => ?_) (fun c1 => ?_)
      · have hr := br_n c1 hr
        refine lv_aload hx hb dX10_velocity_39 (lv_at hl 0 rfl) ?_
        refine lv_iload_n hx hb dX10_velocity_41 rfl (lv_at hl 3 rfl) ?_
        refine lv_iload_n hx hb dX10_velocity_42 rfl (lv_at hl 4 rfl) ?_
        obtain ⟨r_5, hc43, hr⟩ := ob1_e hr
        refine xk_i (va_runV (As := [.int x2, .int x3]) (rest := []) ⟨hx, hb, hml, hown, hts⟩ (c_X3_velocityFrom l D cA ad M k_2 x2 x3 hk5 hc43) (cwV 2 hts gX10_velocity_X3_velocityFrom rfl rfl rfl (by decide +kernel) ⟨Nat.le_of_ble_eq_true rfl, Nat.le_of_ble_eq_true rfl⟩) (xpreV hK hW (k := k_2) hk5 (by decide) rfl) rfl rfl hl.1 rfl (lv_room (Nat.le_of_ble_eq_true rfl)) dX10_velocity_43 ⟨Nat.le_of_ble_eq_true rfl, Nat.le_of_ble_eq_true rfl⟩) hW (fun H locs hW => ?_)
        rw [← Option.some.inj hr]
        exact xiret hx hb hr0 hlocks hW adR_rf dX10_velocity_46
      · have hr := br_p c1 hr
        refine lv_ldc (v := (-2000000002 : Int32)) hx hb hown (hts _ (wm 3 rfl)) dX10_velocity_36 ?_
        rw [← Option.some.inj hr]
        exact xiret hx hb hr0 hlocks hW adR_rf dX10_velocity_38

set_option maxHeartbeats 4000000 in
set_option maxRecDepth 100000 in
theorem c_X10_ideal (l : Launch) (D : va_G) (cA : Nat → ClassId) (ad : Nat → Nat) (M : Mm) (x1 : Int32) (x2 : Int32) (x3 : Int32) (x4 : Int32) {r : Int32} (hr : f_X10_ideal x1 x2 x3 x4 M = some r) : Met l yX10_ideal wsX10_ideal ({ frames := 2, cells := 0, slots := 0, locals := 47 }) (PcX D true cA ad M [.ref (ad 224), .int x1, .int x2, .int x3, .int x4]) (QiX false D true cA ad r M) 0 0 (AX true ad) := by
  refine Met.ofW (cc := cX10_ideal) (maxL := 6) (ret := (some .int)) (by decide) rfl ?_
  intro p e s m args below meth c s₁ B hml hv
  obtain ⟨hav, hP0, hK⟩ := hv
  have hx := B.exec
  have hb := B.bytes
  have hr0 := B.returns
  have hts := atoms_spec (ws := wsX10_ideal) B.pre
  have hown : s.vm.findClass RX10 = some m.cls := findClass_of_methodNamed B.named
  have hlocks := B.notSynchronized
  have hW := xstart hP0
  have hi10 : ∀ w ∈ wsX100, w ∈ wsX10_ideal := fun w h => List.mem_cons_of_mem _ (List.mem_append_left _ (List.mem_append_left _ (List.mem_append_right _ h)))
  have hl := lv_entry ([.ref (ad 224), .int x1, .int x2, .int x3, .int x4]) (n := 6) (Nat.le_of_ble_eq_true rfl)
  have hef := lg_entry_eq m ([.ref (ad 224), .int x1, .int x2, .int x3, .int x4]) 6
  rw [← hav] at hef
  rw [hef]
  clear hef
  generalize (lg_sl ([.ref (ad 224), .int x1, .int x2, .int x3, .int x4]) ++ List.replicate (6 - (lg_sl ([.ref (ad 224), .int x1, .int x2, .int x3, .int x4])).length) Slot.unset).toArray = ls at hl ⊢
  have hl : lv_has ls 6 [(0, .ref (ad 224)), (1, .int x1), (2, .int x2), (3, .int x3), (4, .int x4)] := hl
  clear hP0
  unfold f_X10_ideal at hr
  refine lv_aload_n hx hb dX10_ideal_0 rfl (lv_at hl 0 rfl) ?_
  refine g10_0 hx hb hts hi10 hown hK hW (k := 224) rfl (hts _ (wm 1 rfl)) dX10_ideal_1 ?_
  refine lv_iload_n hx hb dX10_ideal_4 rfl (lv_at hl 1 rfl) ?_
  obtain ⟨r_1, hc5, hr⟩ := ob1_e hr
  refine xk_q (va_runV (As := [.int x1]) (rest := []) ⟨hx, hb, hml, hown, hts⟩ (c_X8_pathAt l D cA ad M x1 hc5) (cwV 1 hts gX10_ideal_X8_pathAt rfl rfl rfl (by decide +kernel) ⟨Nat.le_of_ble_eq_true rfl, Nat.le_of_ble_eq_true rfl⟩) (xpreV hK hW (k := 0) rfl (by decide) rfl) rfl rfl hl.1 rfl (lv_room (Nat.le_of_ble_eq_true rfl)) dX10_ideal_5 ⟨Nat.le_of_ble_eq_true rfl, Nat.le_of_ble_eq_true rfl⟩) hW (fun H locs hW => ?_)
  cases r_1 with
  | none =>
    have hr : _ = _ := hr
    simp only [onl] at hr
    refine lv_astoreN (lv' := [(5, .null), (0, .ref (ad 224)), (1, .int x1), (2, .int x2), (3, .int x3), (4, .int x4)]) hx hb dX10_ideal_8 hl (by decide) rfl (fun ls hl => ?_)
    refine lv_aloadN hx hb dX10_ideal_10 (lv_at hl 0 rfl) ?_
    refine lv_ifnonnullN hx hb dX10_ideal_12 ?_
    refine lv_ldc (v := (-2000000001 : Int32)) hx hb hown (hts _ (wm 2 rfl)) dX10_ideal_15 ?_
    rw [← Option.some.inj hr]
    exact xiret hx hb hr0 hlocks hW adR_rf dX10_ideal_17
  | some k_2 =>
    simp only [onl] at hr
    obtain ⟨hk5, hr⟩ := chk_e hr
    have hk5 := of_decide_eq_true hk5
    refine lv_astore (lv' := [(5, .ref (ad k_2)), (0, .ref (ad 224)), (1, .int x1), (2, .int x2), (3, .int x3), (4, .int x4)]) hx hb dX10_ideal_8 hl (by decide) rfl (fun ls hl => ?_)
    refine lv_aload hx hb dX10_ideal_10 (lv_at hl 0 rfl) ?_
    refine lv_ifnonnull (tgt := 18) hx hb dX10_ideal_12 (by decide) ?_
    refine lv_iload_n hx hb dX10_ideal_18 rfl (lv_at hl 3 rfl) ?_
    refine lv_sipush (v := (300 : Int32)) hx hb dX10_ideal_19 (by decide) ?_
    refine lv_sipush (v := (3000 : Int32)) hx hb dX10_ideal_22 (by decide) ?_
    obtain ⟨r_3, hc25, hr⟩ := ob1_e hr
    refine xk_i (va_runS (As := [.int x2, .int (300 : Int32), .int (3000 : Int32)]) (rest := []) ⟨hx, hb, hml, hown, hts⟩ (c_X10_isWithin l D cA ad M x2 (300 : Int32) (3000 : Int32) hc25) (va_cwS 3 hts gX10_ideal_X10_isWithin rfl rfl rfl (by decide +kernel) ⟨Nat.le_of_ble_eq_true rfl, Nat.le_of_ble_eq_true rfl⟩) (xpreS hK hW) rfl rfl hl.1 rfl (lv_room (Nat.le_of_ble_eq_true rfl)) dX10_ideal_25 ⟨Nat.le_of_ble_eq_true rfl, Nat.le_of_ble_eq_true rfl⟩) hW (fun H locs hW => ?_)
    refine lv_if_eq (tgt := 44) hx hb dX10_ideal_28 (by decide) (fun c1 => ?_) (fun c1 => ?_)
    · have hr := br_p c1 hr
      refine lv_ldc (v := (-2000000002 : Int32)) hx hb hown (hts _ (wm 3 rfl)) dX10_ideal_44 ?_
      rw [← Option.some.inj hr]
      exact xiret hx hb hr0 hlocks hW adR_rf dX10_ideal_46
    · have hr := br_n c1 hr
      refine lv_iload_n hx hb dX10_ideal_31 rfl (lv_at hl 4 rfl) ?_
      refine lv_sipush (v := (-20000 : Int32)) hx hb dX10_ideal_32 (by decide) ?_
      refine lv_sipush (v := (20000 : Int32)) hx hb dX10_ideal_35 (by decide) ?_
      obtain ⟨r_4, hc38, hr⟩ := ob1_e hr
      refine xk_i (va_runS (As := [.int x3, .int (-20000 : Int32), .int (20000 : Int32)]) (rest := []) ⟨hx, hb, hml, hown, hts⟩ (c_X10_isWithin l D cA ad M x3 (-20000 : Int32) (20000 : Int32) hc38) (va_cwS 3 hts gX10_ideal_X10_isWithin rfl rfl rfl (by decide +kernel) ⟨Nat.le_of_ble_eq_true rfl, Nat.le_of_ble_eq_true rfl⟩) (xpreS hK hW) rfl rfl hl.1 rfl (lv_room (Nat.le_of_ble_eq_true rfl)) dX10_ideal_38 ⟨Nat.le_of_ble_eq_true rfl, Nat.le_of_ble_eq_true rfl⟩) hW (fun H locs hW => ?_)
      refine lv_if_ne (tgt := 47) hx hb dX10_ideal_41 (by decide) (fun c1 => ?_) (fun c1 => ?_)
      · have hr := br_n c1 hr
        refine lv_aload hx hb dX10_ideal_47 (lv_at hl 0 rfl) ?_
        refine lv_iload_n hx hb dX10_ideal_49 rfl (lv_at hl 3 rfl) ?_
        refine lv_iload hx hb dX10_ideal_50 (lv_at hl 5 rfl) ?_
        obtain ⟨y_5, hr, hr3⟩ := ob1_e hr
        have hj61_5 : ∀ (H : Heap) (locs : List Loc) (ls : Array Slot), Xw D true cA ad M (AX true ad) s.heap H locs → lv_has ls 6 [] → W p l e (headSpec wsX10_ideal { frames := 2, cells := 0, slots := 0, locals := 47 }).room s m args below meth c H locs 0 0 (MQ below (QiX false D true cA ad r M) args s 0 0 (AX true ad)) (F0 m 61 ls [.int y_5, .int x2, .ref (ad k_2)]) := by
          intro H locs ls hW hl
          have hr := hr3
          obtain ⟨r_6, hc61, hr⟩ := ob1_e hr
          refine xk_i (va_runV (As := [.int x2, .int y_5]) (rest := []) ⟨hx, hb, hml, hown, hts⟩ (c_X3_idealTime l D cA ad M k_2 x2 y_5 hk5 hc61) (cwV 2 hts gX10_ideal_X3_idealTime rfl rfl rfl (by decide +kernel) ⟨Nat.le_of_ble_eq_true rfl, Nat.le_of_ble_eq_true rfl⟩) (xpreV hK hW (k := k_2) hk5 (by decide) rfl) rfl rfl hl.1 rfl (lv_room (Nat.le_of_ble_eq_true rfl)) dX10_ideal_61 ⟨Nat.le_of_ble_eq_true rfl, Nat.le_of_ble_eq_true rfl⟩) hW (fun H locs hW => ?_)
          rw [← Option.some.inj hr]
          exact xiret hx hb hr0 hlocks hW adR_rf dX10_ideal_64
        clear hr3
        refine lv_if_eq (tgt := 60) hx hb dX10_ideal_52 (by decide) (fun c1 => ?_) (fun c1 => ?_)
        · have hr := br_p c1 hr
          refine lv_iload_n hx hb dX10_ideal_60 rfl (lv_at hl 4 rfl) ?_
          have e1 := Option.some.inj hr
          subst e1
          exact hj61_5 _ _ _ hW (lv_sub hl [] rfl)
        · have hr := br_n c1 hr
          refine lv_iload_n hx hb dX10_ideal_55 rfl (lv_at hl 4 rfl) ?_
          refine lv_ineg hx hb dX10_ideal_56 ?_
          refine lv_goto (tgt := 61) hx hb dX10_ideal_57 (by decide) ?_
          have e1 := Option.some.inj hr
          subst e1
          exact hj61_5 _ _ _ hW (lv_sub hl [] rfl)
      · have hr := br_p c1 hr
        refine lv_ldc (v := (-2000000002 : Int32)) hx hb hown (hts _ (wm 3 rfl)) dX10_ideal_44 ?_
        rw [← Option.some.inj hr]
        exact xiret hx hb hr0 hlocks hW adR_rf dX10_ideal_46

set_option maxHeartbeats 4000000 in
set_option maxRecDepth 100000 in
theorem c_X10_wouldBe (l : Launch) (D : va_G) (cA : Nat → ClassId) (ad : Nat → Nat) (M : Mm) {r : Int32} {M' : Mm} (hr : f_X10_wouldBe M = some (r, M')) : Met l yX10_wouldBe wsX10_wouldBe ({ frames := 4, cells := 0, slots := 0, locals := 101 }) (PcX D true cA ad M [.ref (ad 224)]) (QiX false D true cA ad r M') 0 0 (AX true ad) := by
  refine Met.ofW (cc := cX10_wouldBe) (maxL := 1) (ret := (some .int)) (by decide) rfl ?_
  intro p e s m args below meth c s₁ B hml hv
  obtain ⟨hav, hP0, hK⟩ := hv
  have hx := B.exec
  have hb := B.bytes
  have hr0 := B.returns
  have hts := atoms_spec (ws := wsX10_wouldBe) B.pre
  have hown : s.vm.findClass RX10 = some m.cls := findClass_of_methodNamed B.named
  have hlocks := B.notSynchronized
  have hW := xstart hP0
  have hi2 : ∀ w ∈ wsX20, w ∈ wsX10_wouldBe := fun w h => List.mem_cons_of_mem _ (List.mem_append_left _ (List.mem_append_left _ (List.mem_append_left _ (List.mem_append_right _ h))))
  have hi8 : ∀ w ∈ wsX80, w ∈ wsX10_wouldBe := fun w h => List.mem_cons_of_mem _ (List.mem_append_left _ (List.mem_append_left _ (List.mem_append_left _ (List.mem_append_left _ (List.mem_append_right _ h)))))
  have hi10 : ∀ w ∈ wsX100, w ∈ wsX10_wouldBe := fun w h => List.mem_cons_of_mem _ (List.mem_append_left _ (List.mem_append_left _ (List.mem_append_left _ (List.mem_append_left _ (List.mem_append_left _ (List.mem_append_right _ h))))))
  have hl := lv_entry ([.ref (ad 224)]) (n := 1) (Nat.le_of_ble_eq_true rfl)
  have hef := lg_entry_eq m ([.ref (ad 224)]) 1
  rw [← hav] at hef
  rw [hef]
  clear hef
  generalize (lg_sl ([.ref (ad 224)]) ++ List.replicate (1 - (lg_sl ([.ref (ad 224)])).length) Slot.unset).toArray = ls at hl ⊢
  have hl : lv_has ls 1 [(0, .ref (ad 224))] := hl
  clear hP0
  unfold f_X10_wouldBe at hr
  refine lv_aload_n hx hb dX10_wouldBe_0 rfl (lv_at hl 0 rfl) ?_
  refine g10_0 hx hb hts hi10 hown hK hW (k := 224) rfl (hts _ (wm 1 rfl)) dX10_wouldBe_1 ?_
  refine g8_1 hx hb hts hi8 hown hK hW (k := 0) rfl (hts _ (wm 2 rfl)) dX10_wouldBe_4 ?_
  refine lv_if_ne (tgt := 13) hx hb dX10_wouldBe_7 (by decide) (fun c1 => ?_) (fun c1 => ?_)
  · have hr := br_n c1 hr
    refine lv_aload_n hx hb dX10_wouldBe_13 rfl (lv_at hl 0 rfl) ?_
    refine g10_6 hx hb hts hi10 hown hK hW (k := 224) rfl (hts _ (wm 4 rfl)) dX10_wouldBe_14 ?_
    refine lv_aload_n hx hb dX10_wouldBe_17 rfl (lv_at hl 0 rfl) ?_
    refine g10_0 hx hb hts hi10 hown hK hW (k := 224) rfl (hts _ (wm 1 rfl)) dX10_wouldBe_18 ?_
    refine lv_aload_n hx hb dX10_wouldBe_21 rfl (lv_at hl 0 rfl) ?_
    refine g10_0 hx hb hts hi10 hown hK hW (k := 224) rfl (hts _ (wm 1 rfl)) dX10_wouldBe_22 ?_
    refine g8_3 hx hb hts hi8 hown hK hW (k := 0) rfl (hts _ (wm 5 rfl)) dX10_wouldBe_25 ?_
    refine lv_iconst (v := (1 : Int32)) hx hb dX10_wouldBe_28 (by decide) ?_
    refine xiald hx hb hK hW (k := 13) (t := 21) rfl (by decide) (by decide) rfl (n := 5) (by decide) (jx := 1) (by decide) dX10_wouldBe_29 ?_
    obtain ⟨M_1, hc30, hr⟩ := ob1_e hr
    refine xk_v (va_runV (As := [.ref (ad 0), .int (gI M 13 1)]) (rest := []) ⟨hx, hb, hml, hown, hts⟩ (c_X2_judge l D cA ad M (gI M 13 1) hc30) (cwV 2 hts gX10_wouldBe_X2_judge rfl rfl rfl (by decide +kernel) ⟨Nat.le_of_ble_eq_true rfl, Nat.le_of_ble_eq_true rfl⟩) (xpreV hK hW (k := 232) rfl (by decide) rfl) rfl rfl hl.1 rfl (lv_room (Nat.le_of_ble_eq_true rfl)) dX10_wouldBe_30 ⟨Nat.le_of_ble_eq_true rfl, Nat.le_of_ble_eq_true rfl⟩) hW (fun H locs hW => ?_)
    refine lv_aload_n hx hb dX10_wouldBe_33 rfl (lv_at hl 0 rfl) ?_
    refine g10_6 hx hb hts hi10 hown hK hW (k := 224) rfl (hts _ (wm 4 rfl)) dX10_wouldBe_34 ?_
    refine g2_10 hx hb hts hi2 hown hK hW (k := 232) rfl (hts _ (wm 6 rfl)) dX10_wouldBe_37 ?_
    obtain ⟨e1, e2⟩ := Prod.mk.inj (Option.some.inj hr)
    rw [← e1, ← e2]
    exact xiret hx hb hr0 hlocks hW adR_rf dX10_wouldBe_40
  · have hr := br_p c1 hr
    refine lv_ldc (v := (-2000000003 : Int32)) hx hb hown (hts _ (wm 3 rfl)) dX10_wouldBe_10 ?_
    obtain ⟨e1, e2⟩ := Prod.mk.inj (Option.some.inj hr)
    rw [← e1, ← e2]
    exact xiret hx hb hr0 hlocks hW adR_rf dX10_wouldBe_12

set_option maxHeartbeats 4000000 in
set_option maxRecDepth 100000 in
theorem c_X10_wouldBecome (l : Launch) (D : va_G) (cA : Nat → ClassId) (ad : Nat → Nat) (M : Mm) (x1 : Int32) {r : Int32} {M' : Mm} (hr : f_X10_wouldBecome x1 M = some (r, M')) : Met l yX10_wouldBecome wsX10_wouldBecome ({ frames := 4, cells := 0, slots := 0, locals := 101 }) (PcX D true cA ad M [.ref (ad 224), .int x1]) (QiX false D true cA ad r M') 0 0 (AX true ad) := by
  refine Met.ofW (cc := cX10_wouldBecome) (maxL := 2) (ret := (some .int)) (by decide) rfl ?_
  intro p e s m args below meth c s₁ B hml hv
  obtain ⟨hav, hP0, hK⟩ := hv
  have hx := B.exec
  have hb := B.bytes
  have hr0 := B.returns
  have hts := atoms_spec (ws := wsX10_wouldBecome) B.pre
  have hown : s.vm.findClass RX10 = some m.cls := findClass_of_methodNamed B.named
  have hlocks := B.notSynchronized
  have hW := xstart hP0
  have hi8 : ∀ w ∈ wsX80, w ∈ wsX10_wouldBecome := fun w h => List.mem_cons_of_mem _ (List.mem_append_left _ (List.mem_append_left _ (List.mem_append_left _ (List.mem_append_left _ (List.mem_append_right _ h)))))
  have hi10 : ∀ w ∈ wsX100, w ∈ wsX10_wouldBecome := fun w h => List.mem_cons_of_mem _ (List.mem_append_left _ (List.mem_append_left _ (List.mem_append_left _ (List.mem_append_left _ (List.mem_append_left _ (List.mem_append_right _ h))))))
  have hl := lv_entry ([.ref (ad 224), .int x1]) (n := 2) (Nat.le_of_ble_eq_true rfl)
  have hef := lg_entry_eq m ([.ref (ad 224), .int x1]) 2
  rw [← hav] at hef
  rw [hef]
  clear hef
  generalize (lg_sl ([.ref (ad 224), .int x1]) ++ List.replicate (2 - (lg_sl ([.ref (ad 224), .int x1])).length) Slot.unset).toArray = ls at hl ⊢
  have hl : lv_has ls 2 [(0, .ref (ad 224)), (1, .int x1)] := hl
  clear hP0
  unfold f_X10_wouldBecome at hr
  refine lv_aload_n hx hb dX10_wouldBecome_0 rfl (lv_at hl 0 rfl) ?_
  refine g10_0 hx hb hts hi10 hown hK hW (k := 224) rfl (hts _ (wm 1 rfl)) dX10_wouldBecome_1 ?_
  refine lv_iload_n hx hb dX10_wouldBecome_4 rfl (lv_at hl 1 rfl) ?_
  obtain ⟨r_1, hc5, hr⟩ := ob1_e hr
  refine xk_q (va_runV (As := [.int x1]) (rest := []) ⟨hx, hb, hml, hown, hts⟩ (c_X8_pathAt l D cA ad M x1 hc5) (cwV 1 hts gX10_wouldBecome_X8_pathAt rfl rfl rfl (by decide +kernel) ⟨Nat.le_of_ble_eq_true rfl, Nat.le_of_ble_eq_true rfl⟩) (xpreV hK hW (k := 0) rfl (by decide) rfl) rfl rfl hl.1 rfl (lv_room (Nat.le_of_ble_eq_true rfl)) dX10_wouldBecome_5 ⟨Nat.le_of_ble_eq_true rfl, Nat.le_of_ble_eq_true rfl⟩) hW (fun H locs hW => ?_)
  cases r_1 with
  | none =>
    have hr : _ = _ := hr
    simp only [onl] at hr
    refine lv_ifnonnullN hx hb dX10_wouldBecome_8 ?_
    refine lv_ldc (v := (-2000000001 : Int32)) hx hb hown (hts _ (wm 2 rfl)) dX10_wouldBecome_11 ?_
    obtain ⟨e1, e2⟩ := Prod.mk.inj (Option.some.inj hr)
    rw [← e1, ← e2]
    exact xiret hx hb hr0 hlocks hW adR_rf dX10_wouldBecome_13
  | some k_2 =>
    simp only [onl] at hr
    obtain ⟨hk5, hr⟩ := chk_e hr
    have hk5 := of_decide_eq_true hk5
    refine lv_ifnonnull (tgt := 14) hx hb dX10_wouldBecome_8 (by decide) ?_
    refine lv_aload_n hx hb dX10_wouldBecome_14 rfl (lv_at hl 0 rfl) ?_
    refine g10_6 hx hb hts hi10 hown hK hW (k := 224) rfl (hts _ (wm 3 rfl)) dX10_wouldBecome_15 ?_
    refine lv_aload_n hx hb dX10_wouldBecome_18 rfl (lv_at hl 0 rfl) ?_
    refine g10_0 hx hb hts hi10 hown hK hW (k := 224) rfl (hts _ (wm 1 rfl)) dX10_wouldBecome_19 ?_
    refine lv_aload_n hx hb dX10_wouldBecome_22 rfl (lv_at hl 0 rfl) ?_
    refine g10_0 hx hb hts hi10 hown hK hW (k := 224) rfl (hts _ (wm 1 rfl)) dX10_wouldBecome_23 ?_
    refine g8_3 hx hb hts hi8 hown hK hW (k := 0) rfl (hts _ (wm 4 rfl)) dX10_wouldBecome_26 ?_
    refine lv_iconst (v := (1 : Int32)) hx hb dX10_wouldBecome_29 (by decide) ?_
    refine xiald hx hb hK hW (k := 13) (t := 21) rfl (by decide) (by decide) rfl (n := 5) (by decide) (jx := 1) (by decide) dX10_wouldBecome_30 ?_
    obtain ⟨M_3, hc31, hr⟩ := ob1_e hr
    refine xk_v (va_runV (As := [.ref (ad 0), .int (gI M 13 1)]) (rest := []) ⟨hx, hb, hml, hown, hts⟩ (c_X2_judge l D cA ad M (gI M 13 1) hc31) (cwV 2 hts gX10_wouldBecome_X2_judge rfl rfl rfl (by decide +kernel) ⟨Nat.le_of_ble_eq_true rfl, Nat.le_of_ble_eq_true rfl⟩) (xpreV hK hW (k := 232) rfl (by decide) rfl) rfl rfl hl.1 rfl (lv_room (Nat.le_of_ble_eq_true rfl)) dX10_wouldBecome_31 ⟨Nat.le_of_ble_eq_true rfl, Nat.le_of_ble_eq_true rfl⟩) hW (fun H locs hW => ?_)
    refine lv_aload_n hx hb dX10_wouldBecome_34 rfl (lv_at hl 0 rfl) ?_
    refine g10_6 hx hb hts hi10 hown hK hW (k := 224) rfl (hts _ (wm 3 rfl)) dX10_wouldBecome_35 ?_
    refine lv_iload_n hx hb dX10_wouldBecome_38 rfl (lv_at hl 1 rfl) ?_
    obtain ⟨r_4, hc39, hr⟩ := ob1_e hr
    refine xk_i (va_runV (As := [.int x1]) (rest := []) ⟨hx, hb, hml, hown, hts⟩ (c_X2_outcomeOf l D cA ad M_3 x1 hc39) (cwV 1 hts gX10_wouldBecome_X2_outcomeOf rfl rfl rfl (by decide +kernel) ⟨Nat.le_of_ble_eq_true rfl, Nat.le_of_ble_eq_true rfl⟩) (xpreV hK hW (k := 232) rfl (by decide) rfl) rfl rfl hl.1 rfl (lv_room (Nat.le_of_ble_eq_true rfl)) dX10_wouldBecome_39 ⟨Nat.le_of_ble_eq_true rfl, Nat.le_of_ble_eq_true rfl⟩) hW (fun H locs hW => ?_)
    obtain ⟨e1, e2⟩ := Prod.mk.inj (Option.some.inj hr)
    rw [← e1, ← e2]
    exact xiret hx hb hr0 hlocks hW adR_rf dX10_wouldBecome_42

set_option maxHeartbeats 4000000 in
set_option maxRecDepth 100000 in
theorem c_X10_skipsNeeded (l : Launch) (D : va_G) (cA : Nat → ClassId) (ad : Nat → Nat) (M : Mm) {r : Int32} {M' : Mm} (hr : f_X10_skipsNeeded M = some (r, M')) : Met l yX10_skipsNeeded wsX10_skipsNeeded ({ frames := 4, cells := 0, slots := 0, locals := 101 }) (PcX D true cA ad M [.ref (ad 224)]) (QiX false D true cA ad r M') 0 0 (AX true ad) := by
  refine Met.ofW (cc := cX10_skipsNeeded) (maxL := 2) (ret := (some .int)) (by decide) rfl ?_
  intro p e s m args below meth c s₁ B hml hv
  obtain ⟨hav, hP0, hK⟩ := hv
  have hx := B.exec
  have hb := B.bytes
  have hr0 := B.returns
  have hts := atoms_spec (ws := wsX10_skipsNeeded) B.pre
  have hown : s.vm.findClass RX10 = some m.cls := findClass_of_methodNamed B.named
  have hlocks := B.notSynchronized
  have hW := xstart hP0
  have hi10 : ∀ w ∈ wsX100, w ∈ wsX10_skipsNeeded := fun w h => List.mem_cons_of_mem _ (List.mem_append_left _ (List.mem_append_left _ (List.mem_append_left _ (List.mem_append_left _ (List.mem_append_left _ (List.mem_append_right _ h))))))
  have hl := lv_entry ([.ref (ad 224)]) (n := 2) (Nat.le_of_ble_eq_true rfl)
  have hef := lg_entry_eq m ([.ref (ad 224)]) 2
  rw [← hav] at hef
  rw [hef]
  clear hef
  generalize (lg_sl ([.ref (ad 224)]) ++ List.replicate (2 - (lg_sl ([.ref (ad 224)])).length) Slot.unset).toArray = ls at hl ⊢
  have hl : lv_has ls 2 [(0, .ref (ad 224))] := hl
  clear hP0
  unfold f_X10_skipsNeeded at hr
  refine lv_iconst (v := (0 : Int32)) hx hb dX10_skipsNeeded_0 (by decide) ?_
  refine lv_istore_n (lv' := [(1, .int (0 : Int32)), (0, .ref (ad 224))]) hx hb dX10_skipsNeeded_1 rfl hl (by decide) rfl (fun ls hl => ?_)
  have hL2_1 : ∀ (n : Nat) (x1_1 : Int32) (M_2 : Mm) (H : Heap) (locs : List Loc) (ls : Array Slot), Xw D true cA ad M_2 (AX true ad) s.heap H locs → lv_has ls 2 [(0, .ref (ad 224)), (1, .int x1_1)] → f_X10_skipsNeeded_L2 n x1_1 M_2 = some (r, M') → W p l e (headSpec wsX10_skipsNeeded { frames := 4, cells := 0, slots := 0, locals := 101 }).room s m args below meth c H locs 0 0 (MQ below (QiX false D true cA ad r M') args s 0 0 (AX true ad)) (F0 m 2 ls []) := by
    intro n
    induction n with
    | zero =>
      intro x1_1 M_2 H locs ls hW hl hr
      exact absurd hr (by simp [f_X10_skipsNeeded_L2])
    | succ n ih =>
      intro x1_1 M_2 H locs ls hW hl hr
      rw [f_X10_skipsNeeded_L2] at hr
      refine lv_iload_n hx hb dX10_skipsNeeded_2 rfl (lv_at hl 1 rfl) ?_
      refine lv_iconst (v := (5 : Int32)) hx hb dX10_skipsNeeded_3 (by decide) ?_
      refine lv_icmp_gt (tgt := 37) hx hb dX10_skipsNeeded_4 (by decide) (fun c1 => ?_) (fun c1 => ?_)
      · have hr := br_p c1 hr
        refine lv_ldc (v := (-2000000005 : Int32)) hx hb hown (hts _ (wm 3 rfl)) dX10_skipsNeeded_37 ?_
        obtain ⟨e1, e2⟩ := Prod.mk.inj (Option.some.inj hr)
        rw [← e1, ← e2]
        exact xiret hx hb hr0 hlocks hW adR_rf dX10_skipsNeeded_39
      · have hr := br_n c1 hr
        refine lv_aload_n hx hb dX10_skipsNeeded_7 rfl (lv_at hl 0 rfl) ?_
        refine g10_6 hx hb hts hi10 hown hK hW (k := 224) rfl (hts _ (wm 1 rfl)) dX10_skipsNeeded_8 ?_
        refine lv_aload_n hx hb dX10_skipsNeeded_11 rfl (lv_at hl 0 rfl) ?_
        refine g10_0 hx hb hts hi10 hown hK hW (k := 224) rfl (hts _ (wm 2 rfl)) dX10_skipsNeeded_12 ?_
        refine lv_iload_n hx hb dX10_skipsNeeded_15 rfl (lv_at hl 1 rfl) ?_
        obtain ⟨M_3, hc16, hr⟩ := ob1_e hr
        refine xk_v (va_runV (As := [.ref (ad 0), .int x1_1]) (rest := []) ⟨hx, hb, hml, hown, hts⟩ (c_X2_judge l D cA ad M_2 x1_1 hc16) (cwV 2 hts gX10_skipsNeeded_X2_judge rfl rfl rfl (by decide +kernel) ⟨Nat.le_of_ble_eq_true rfl, Nat.le_of_ble_eq_true rfl⟩) (xpreV hK hW (k := 232) rfl (by decide) rfl) rfl rfl hl.1 rfl (lv_room (Nat.le_of_ble_eq_true rfl)) dX10_skipsNeeded_16 ⟨Nat.le_of_ble_eq_true rfl, Nat.le_of_ble_eq_true rfl⟩) hW (fun H locs hW => ?_)
        refine lv_aload_n hx hb dX10_skipsNeeded_19 rfl (lv_at hl 0 rfl) ?_
        refine g10_6 hx hb hts hi10 hown hK hW (k := 224) rfl (hts _ (wm 1 rfl)) dX10_skipsNeeded_20 ?_
        obtain ⟨r_4, hc23, hr⟩ := ob1_e hr
        refine xk_i (va_runV (As := []) (rest := []) ⟨hx, hb, hml, hown, hts⟩ (c_X2_hasOutlier l D cA ad M_3 hc23) (cwV 0 hts gX10_skipsNeeded_X2_hasOutlier rfl rfl rfl (by decide +kernel) ⟨Nat.le_of_ble_eq_true rfl, Nat.le_of_ble_eq_true rfl⟩) (xpreV hK hW (k := 232) rfl (by decide) rfl) rfl rfl hl.1 rfl (lv_room (Nat.le_of_ble_eq_true rfl)) dX10_skipsNeeded_23 ⟨Nat.le_of_ble_eq_true rfl, Nat.le_of_ble_eq_true rfl⟩) hW (fun H locs hW => ?_)
        refine lv_if_ne (tgt := 31) hx hb dX10_skipsNeeded_26 (by decide) (fun c1 => ?_) (fun c1 => ?_)
        · have hr := br_n c1 hr
          obtain ⟨x1_5, ex1_5, hr⟩ := lt1_e hr
          refine lv_iinc (v := x1_5) (lv' := [(1, .int x1_5), (0, .ref (ad 224))]) hx hb dX10_skipsNeeded_31 hl (k := 1) rfl (by rw [ex1_5]; rfl) (by decide) rfl (fun ls hl => ?_)
          refine lv_goto (tgt := 2) hx hb dX10_skipsNeeded_34 (by decide) ?_
          exact ih x1_5 M_3 _ _ _ hW (lv_sub hl [1, 0] rfl) hr
        · have hr := br_p c1 hr
          refine lv_iload_n hx hb dX10_skipsNeeded_29 rfl (lv_at hl 1 rfl) ?_
          obtain ⟨e1, e2⟩ := Prod.mk.inj (Option.some.inj hr)
          rw [← e1, ← e2]
          exact xiret hx hb hr0 hlocks hW adR_rf dX10_skipsNeeded_30
  exact hL2_1 1000 (0 : Int32) M _ _ _ hW (lv_sub hl [1, 0] rfl) hr

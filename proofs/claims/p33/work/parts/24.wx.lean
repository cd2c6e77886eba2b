set_option maxHeartbeats 4000000 in
set_option maxRecDepth 100000 in
theorem c_X10_shotFault (l : Launch) (D : va_G) (cA : Nat → ClassId) (ad : Nat → Nat) (M : Mm) (x1 : Int32) (x2 : Int32) (x3 : Int32) (x4 : Int32) {r : Int32} (hr : f_X10_shotFault x1 x2 x3 x4 M = some r) : Met l yX10_shotFault wsX10_shotFault ({ frames := 2, cells := 0, slots := 0, locals := 43 }) (PcX D true cA ad M [.ref (ad 224), .int x1, .int x2, .int x3, .int x4]) (QiX false D true cA ad r M) 0 0 (AX true ad) := by
  refine Met.ofW (cc := cX10_shotFault) (maxL := 7) (ret := (some .int)) (by decide) rfl ?_
  intro p e s m args below meth c s₁ B hml hv
  obtain ⟨hav, hP0, hK⟩ := hv
  have hx := B.exec
  have hb := B.bytes
  have hr0 := B.returns
  have hts := atoms_spec (ws := wsX10_shotFault) B.pre
  have hown : s.vm.findClass RX10 = some m.cls := findClass_of_methodNamed B.named
  have hlocks := B.notSynchronized
  have hW := xstart hP0
  have hi10 : ∀ w ∈ wsX100, w ∈ wsX10_shotFault := fun w h => List.mem_cons_of_mem _ (List.mem_append_left _ (List.mem_append_left _ (List.mem_append_right _ h)))
  have hl := lv_entry ([.ref (ad 224), .int x1, .int x2, .int x3, .int x4]) (n := 7) (Nat.le_of_ble_eq_true rfl)
  have hef := lg_entry_eq m ([.ref (ad 224), .int x1, .int x2, .int x3, .int x4]) 7
  rw [← hav] at hef
  rw [hef]
  clear hef
  generalize (lg_sl ([.ref (ad 224), .int x1, .int x2, .int x3, .int x4]) ++ List.replicate (7 - (lg_sl ([.ref (ad 224), .int x1, .int x2, .int x3, .int x4])).length) Slot.unset).toArray = ls at hl ⊢
  have hl : lv_has ls 7 [(0, .ref (ad 224)), (1, .int x1), (2, .int x2), (3, .int x3), (4, .int x4)] := hl
  clear hP0
  unfold f_X10_shotFault at hr
  refine lv_aload_n hx hb dX10_shotFault_0 rfl (lv_at hl 0 rfl) ?_
  refine g10_0 hx hb hts hi10 hown hK hW (k := 224) rfl (hts _ (wm 1 rfl)) dX10_shotFault_1 ?_
  refine lv_iload_n hx hb dX10_shotFault_4 rfl (lv_at hl 1 rfl) ?_
  obtain ⟨r_1, hc5, hr⟩ := ob1_e hr
  refine xk_q (va_runV (As := [.int x1]) (rest := []) ⟨hx, hb, hml, hown, hts⟩ (c_X8_pathAt l D cA ad M x1 hc5) (cwV 1 hts gX10_shotFault_X8_pathAt rfl rfl rfl (by decide +kernel) ⟨Nat.le_of_ble_eq_true rfl, Nat.le_of_ble_eq_true rfl⟩) (xpreV hK hW (k := 0) rfl (by decide) rfl) rfl rfl hl.1 rfl (lv_room (Nat.le_of_ble_eq_true rfl)) dX10_shotFault_5 ⟨Nat.le_of_ble_eq_true rfl, Nat.le_of_ble_eq_true rfl⟩) hW (fun H locs hW => ?_)
  cases r_1 with
  | none =>
    have hr : _ = _ := hr
    simp only [onl] at hr
    refine lv_astoreN (lv' := [(5, .null), (0, .ref (ad 224)), (1, .int x1), (2, .int x2), (3, .int x3), (4, .int x4)]) hx hb dX10_shotFault_8 hl (by decide) rfl (fun ls hl => ?_)
    refine lv_aloadN hx hb dX10_shotFault_10 (lv_at hl 0 rfl) ?_
    refine lv_ifnonnullN hx hb dX10_shotFault_12 ?_
    refine lv_ldc (v := (-2000000001 : Int32)) hx hb hown (hts _ (wm 2 rfl)) dX10_shotFault_15 ?_
    rw [← Option.some.inj hr]
    exact xiret hx hb hr0 hlocks hW adR_rf dX10_shotFault_17
  | some k_2 =>
    simp only [onl] at hr
    obtain ⟨hk5, hr⟩ := chk_e hr
    have hk5 := of_decide_eq_true hk5
    refine lv_astore (lv' := [(5, .ref (ad k_2)), (0, .ref (ad 224)), (1, .int x1), (2, .int x2), (3, .int x3), (4, .int x4)]) hx hb dX10_shotFault_8 hl (by decide) rfl (fun ls hl => ?_)
    refine lv_aload hx hb dX10_shotFault_10 (lv_at hl 0 rfl) ?_
    refine lv_ifnonnull (tgt := 18) hx hb dX10_shotFault_12 (by decide) ?_
    refine lv_aload hx hb dX10_shotFault_18 (lv_at hl 0 rfl) ?_
    refine lv_iload_n hx hb dX10_shotFault_20 rfl (lv_at hl 3 rfl) ?_
    obtain ⟨r_3, hc21, hr⟩ := ob1_e hr
    refine xk_i (va_runV (As := [.int x2]) (rest := []) ⟨hx, hb, hml, hown, hts⟩ (c_X3_canTake l D cA ad M k_2 x2 hk5 hc21) (cwV 1 hts gX10_shotFault_X3_canTake rfl rfl rfl (by decide +kernel) ⟨Nat.le_of_ble_eq_true rfl, Nat.le_of_ble_eq_true rfl⟩) (xpreV hK hW (k := k_2) hk5 (by decide) rfl) rfl rfl hl.1 rfl (lv_room (Nat.le_of_ble_eq_true rfl)) dX10_shotFault_21 ⟨Nat.le_of_ble_eq_true rfl, Nat.le_of_ble_eq_true rfl⟩) hW (fun H locs hW => ?_)
    obtain ⟨y_4, hr, hr3⟩ := ob1_e hr
    have hj52_4 : ∀ (H : Heap) (locs : List Loc) (ls : Array Slot), Xw D true cA ad M (AX true ad) s.heap H locs → lv_has ls 7 [] → W p l e (headSpec wsX10_shotFault { frames := 2, cells := 0, slots := 0, locals := 43 }).room s m args below meth c H locs 0 0 (MQ below (QiX false D true cA ad r M) args s 0 0 (AX true ad)) (F0 m 52 ls [.int y_4]) := by
      intro H locs ls hW hl
      have hr := hr3
      refine lv_istore (lv' := [(6, .int y_4)]) hx hb dX10_shotFault_52 hl (by decide) rfl (fun ls hl => ?_)
      refine lv_iload hx hb dX10_shotFault_54 (lv_at hl 0 rfl) ?_
      refine lv_if_eq (tgt := 63) hx hb dX10_shotFault_56 (by decide) (fun c1 => ?_) (fun c1 => ?_)
      · have hr := br_p c1 hr
        refine lv_ldc (v := (-2000000002 : Int32)) hx hb hown (hts _ (wm 3 rfl)) dX10_shotFault_63 ?_
        rw [← Option.some.inj hr]
        exact xiret hx hb hr0 hlocks hW adR_rf dX10_shotFault_65
      · have hr := br_n c1 hr
        refine lv_iconst (v := (0 : Int32)) hx hb dX10_shotFault_59 (by decide) ?_
        refine lv_goto (tgt := 65) hx hb dX10_shotFault_60 (by decide) ?_
        rw [← Option.some.inj hr]
        exact xiret hx hb hr0 hlocks hW adR_rf dX10_shotFault_65
    clear hr3
    refine lv_if_eq (tgt := 51) hx hb dX10_shotFault_24 (by decide) (fun c1 => ?_) (fun c1 => ?_)
    · have hr := br_p c1 hr
      refine lv_iconst (v := (0 : Int32)) hx hb dX10_shotFault_51 (by decide) ?_
      have e1 := Option.some.inj hr
      subst e1
      exact hj52_4 _ _ _ hW (lv_sub hl [] rfl)
    · have hr := br_n c1 hr
      refine lv_aload hx hb dX10_shotFault_27 (lv_at hl 0 rfl) ?_
      refine lv_iload_n hx hb dX10_shotFault_29 rfl (lv_at hl 4 rfl) ?_
      obtain ⟨r_5, hc30, hr⟩ := ob1_e hr
      refine xk_i (va_runV (As := [.int x3]) (rest := []) ⟨hx, hb, hml, hown, hts⟩ (c_X3_canTake l D cA ad M k_2 x3 hk5 hc30) (cwV 1 hts gX10_shotFault_X3_canTake rfl rfl rfl (by decide +kernel) ⟨Nat.le_of_ble_eq_true rfl, Nat.le_of_ble_eq_true rfl⟩) (xpreV hK hW (k := k_2) hk5 (by decide) rfl) rfl rfl hl.1 rfl (lv_room (Nat.le_of_ble_eq_true rfl)) dX10_shotFault_30 ⟨Nat.le_of_ble_eq_true rfl, Nat.le_of_ble_eq_true rfl⟩) hW (fun H locs hW => ?_)
      refine lv_if_eq (tgt := 51) hx hb dX10_shotFault_33 (by decide) (fun c1 => ?_) (fun c1 => ?_)
      · have hr := br_p c1 hr
        refine lv_iconst (v := (0 : Int32)) hx hb dX10_shotFault_51 (by decide) ?_
        have e1 := Option.some.inj hr
        subst e1
        exact hj52_4 _ _ _ hW (lv_sub hl [] rfl)
      · have hr := br_n c1 hr
        refine lv_iload hx hb dX10_shotFault_36 (lv_at hl 5 rfl) ?_
        refine lv_iconst (v := (0 : Int32)) hx hb dX10_shotFault_38 (by decide) ?_
        refine lv_bipush (v := (100 : Int32)) hx hb dX10_shotFault_39 (by decide) ?_
        obtain ⟨r_6, hc41, hr⟩ := ob1_e hr
        refine xk_i (va_runS (As := [.int x4, .int (0 : Int32), .int (100 : Int32)]) (rest := []) ⟨hx, hb, hml, hown, hts⟩ (c_X10_isWithin l D cA ad M x4 (0 : Int32) (100 : Int32) hc41) (va_cwS 3 hts gX10_shotFault_X10_isWithin rfl rfl rfl (by decide +kernel) ⟨Nat.le_of_ble_eq_true rfl, Nat.le_of_ble_eq_true rfl⟩) (xpreS hK hW) rfl rfl hl.1 rfl (lv_room (Nat.le_of_ble_eq_true rfl)) dX10_shotFault_41 ⟨Nat.le_of_ble_eq_true rfl, Nat.le_of_ble_eq_true rfl⟩) hW (fun H locs hW => ?_)
        refine lv_if_eq (tgt := 51) hx hb dX10_shotFault_44 (by decide) (fun c1 => ?_) (fun c1 => ?_)
        · have hr := br_p c1 hr
          refine lv_iconst (v := (0 : Int32)) hx hb dX10_shotFault_51 (by decide) ?_
          have e1 := Option.some.inj hr
          subst e1
          exact hj52_4 _ _ _ hW (lv_sub hl [] rfl)
        · have hr := br_n c1 hr
          refine lv_iconst (v := (1 : Int32)) hx hb dX10_shotFault_47 (by decide) ?_
          refine lv_goto (tgt := 52) hx hb dX10_shotFault_48 (by decide) ?_
          have e1 := Option.some.inj hr
          subst e1
          exact hj52_4 _ _ _ hW (lv_sub hl [] rfl)

set_option maxHeartbeats 4000000 in
set_option maxRecDepth 100000 in
theorem c_X10_takeShot (l : Launch) (D : va_G) (cA : Nat → ClassId) (ad : Nat → Nat) (M : Mm) (x1 : Int32) (x2 : Int32) (x3 : Int32) (x4 : Int32) {r : Int32} {M' : Mm} (hr : f_X10_takeShot x1 x2 x3 x4 M = some (r, M')) : Met l yX10_takeShot wsX10_takeShot ({ frames := 3, cells := 0, slots := 0, locals := 69 }) (PcX D true cA ad M [.ref (ad 224), .int x1, .int x2, .int x3, .int x4]) (QiX false D true cA ad r M') 0 0 (AX true ad) := by
  refine Met.ofW (cc := cX10_takeShot) (maxL := 6) (ret := (some .int)) (by decide) rfl ?_
  intro p e s m args below meth c s₁ B hml hv
  obtain ⟨hav, hP0, hK⟩ := hv
  have hx := B.exec
  have hb := B.bytes
  have hr0 := B.returns
  have hts := atoms_spec (ws := wsX10_takeShot) B.pre
  have hown : s.vm.findClass RX10 = some m.cls := findClass_of_methodNamed B.named
  have hlocks := B.notSynchronized
  have hW := xstart hP0
  have hi10 : ∀ w ∈ wsX100, w ∈ wsX10_takeShot := fun w h => List.mem_cons_of_mem _ (List.mem_append_left _ (List.mem_append_left _ (List.mem_append_left _ (List.mem_append_right _ h))))
  have hl := lv_entry ([.ref (ad 224), .int x1, .int x2, .int x3, .int x4]) (n := 6) (Nat.le_of_ble_eq_true rfl)
  have hef := lg_entry_eq m ([.ref (ad 224), .int x1, .int x2, .int x3, .int x4]) 6
  rw [← hav] at hef
  rw [hef]
  clear hef
  generalize (lg_sl ([.ref (ad 224), .int x1, .int x2, .int x3, .int x4]) ++ List.replicate (6 - (lg_sl ([.ref (ad 224), .int x1, .int x2, .int x3, .int x4])).length) Slot.unset).toArray = ls at hl ⊢
  have hl : lv_has ls 6 [(0, .ref (ad 224)), (1, .int x1), (2, .int x2), (3, .int x3), (4, .int x4)] := hl
  clear hP0
  unfold f_X10_takeShot at hr
  refine lv_aload_n hx hb dX10_takeShot_0 rfl (lv_at hl 0 rfl) ?_
  refine lv_iload_n hx hb dX10_takeShot_1 rfl (lv_at hl 1 rfl) ?_
  refine lv_iload_n hx hb dX10_takeShot_2 rfl (lv_at hl 2 rfl) ?_
  refine lv_iload_n hx hb dX10_takeShot_3 rfl (lv_at hl 3 rfl) ?_
  refine lv_iload hx hb dX10_takeShot_4 (lv_at hl 4 rfl) ?_
  obtain ⟨r_1, hc6, hr⟩ := ob1_e hr
  refine xk_i (va_runV (As := [.int x1, .int x2, .int x3, .int x4]) (rest := []) ⟨hx, hb, hml, hown, hts⟩ (c_X10_shotFault l D cA ad M x1 x2 x3 x4 hc6) (cwV 4 hts gX10_takeShot_X10_shotFault rfl rfl rfl (by decide +kernel) ⟨Nat.le_of_ble_eq_true rfl, Nat.le_of_ble_eq_true rfl⟩) (xpreV hK hW (k := 224) rfl (by decide) rfl) rfl rfl hl.1 rfl (lv_room (Nat.le_of_ble_eq_true rfl)) dX10_takeShot_6 ⟨Nat.le_of_ble_eq_true rfl, Nat.le_of_ble_eq_true rfl⟩) hW (fun H locs hW => ?_)
  refine lv_istore (lv' := [(5, .int r_1), (0, .ref (ad 224)), (1, .int x1), (2, .int x2), (3, .int x3), (4, .int x4)]) hx hb dX10_takeShot_9 hl (by decide) rfl (fun ls hl => ?_)
  refine lv_iload hx hb dX10_takeShot_11 (lv_at hl 0 rfl) ?_
  refine lv_if_eq (tgt := 19) hx hb dX10_takeShot_13 (by decide) (fun c1 => ?_) (fun c1 => ?_)
  · have hr := br_p c1 hr
    refine lv_aload_n hx hb dX10_takeShot_19 rfl (lv_at hl 1 rfl) ?_
    refine g10_0 hx hb hts hi10 hown hK hW (k := 224) rfl (hts _ (wm 1 rfl)) dX10_takeShot_20 ?_
    refine lv_iload_n hx hb dX10_takeShot_23 rfl (lv_at hl 2 rfl) ?_
    refine lv_iload_n hx hb dX10_takeShot_24 rfl (lv_at hl 3 rfl) ?_
    refine lv_iload_n hx hb dX10_takeShot_25 rfl (lv_at hl 4 rfl) ?_
    refine lv_iload hx hb dX10_takeShot_26 (lv_at hl 5 rfl) ?_
    obtain ⟨M_2, hc28, hr⟩ := ob1_e hr
    refine xk_v (va_runV (As := [.int x1, .int x2, .int x3, .int x4]) (rest := []) ⟨hx, hb, hml, hown, hts⟩ (c_X8_tellShot l D cA ad M x1 x2 x3 x4 hc28) (cwV 4 hts gX10_takeShot_X8_tellShot rfl rfl rfl (by decide +kernel) ⟨Nat.le_of_ble_eq_true rfl, Nat.le_of_ble_eq_true rfl⟩) (xpreV hK hW (k := 0) rfl (by decide) rfl) rfl rfl hl.1 rfl (lv_room (Nat.le_of_ble_eq_true rfl)) dX10_takeShot_28 ⟨Nat.le_of_ble_eq_true rfl, Nat.le_of_ble_eq_true rfl⟩) hW (fun H locs hW => ?_)
    refine lv_aload_n hx hb dX10_takeShot_31 rfl (lv_at hl 1 rfl) ?_
    refine g10_0 hx hb hts hi10 hown hK hW (k := 224) rfl (hts _ (wm 1 rfl)) dX10_takeShot_32 ?_
    obtain ⟨r_3, hc35, hr⟩ := ob1_e hr
    refine xk_i (va_runV (As := []) (rest := []) ⟨hx, hb, hml, hown, hts⟩ (c_X8_toldShots l D cA ad M_2 hc35) (cwV 0 hts gX10_takeShot_X8_toldShots rfl rfl rfl (by decide +kernel) ⟨Nat.le_of_ble_eq_true rfl, Nat.le_of_ble_eq_true rfl⟩) (xpreV hK hW (k := 0) rfl (by decide) rfl) rfl rfl hl.1 rfl (lv_room (Nat.le_of_ble_eq_true rfl)) dX10_takeShot_35 ⟨Nat.le_of_ble_eq_true rfl, Nat.le_of_ble_eq_true rfl⟩) hW (fun H locs hW => ?_)
    obtain ⟨e1, e2⟩ := Prod.mk.inj (Option.some.inj hr)
    rw [← e1, ← e2]
    exact xiret hx hb hr0 hlocks hW adR_rf dX10_takeShot_38
  · have hr := br_n c1 hr
    refine lv_iload hx hb dX10_takeShot_16 (lv_at hl 0 rfl) ?_
    obtain ⟨e1, e2⟩ := Prod.mk.inj (Option.some.inj hr)
    rw [← e1, ← e2]
    exact xiret hx hb hr0 hlocks hW adR_rf dX10_takeShot_18

set_option maxHeartbeats 4000000 in
set_option maxRecDepth 100000 in
theorem c_X10_shot (l : Launch) (D : va_G) (cA : Nat → ClassId) (ad : Nat → Nat) (M : Mm) (x1 : Int32) (x2 : Int32) (x3 : Int32) (x4 : Int32) {r : Int32} {M' : Mm} (hr : f_X10_shot x1 x2 x3 x4 M = some (r, M')) : Met l yX10_shot wsX10_shot ({ frames := 4, cells := 0, slots := 0, locals := 124 }) (PcX D true cA ad M [.ref (ad 224), .int x1, .int x2, .int x3, .int x4]) (QiX true D true cA ad r M') 0 0 (AX true ad) := by
  refine Met.ofW (cc := cX10_shot) (maxL := 6) (ret := (some .int)) (by decide) rfl ?_
  intro p e s m args below meth c s₁ B hml hv
  obtain ⟨hav, hP0, hK⟩ := hv
  have hx := B.exec
  have hb := B.bytes
  have hr0 := B.returns
  have hts := atoms_spec (ws := wsX10_shot) B.pre
  have hown : s.vm.findClass RX10 = some m.cls := findClass_of_methodNamed B.named
  have hlocks := B.notSynchronized
  have hW := xstart hP0
  have hi10 : ∀ w ∈ wsX100, w ∈ wsX10_shot := fun w h => List.mem_cons_of_mem _ (List.mem_append_left _ (List.mem_append_left _ (List.mem_append_left _ (List.mem_append_left _ (List.mem_append_left _ (List.mem_append_left _ (List.mem_append_left _ (List.mem_append_right _ h))))))))
  have hl := lv_entry ([.ref (ad 224), .int x1, .int x2, .int x3, .int x4]) (n := 6) (Nat.le_of_ble_eq_true rfl)
  have hef := lg_entry_eq m ([.ref (ad 224), .int x1, .int x2, .int x3, .int x4]) 6
  rw [← hav] at hef
  rw [hef]
  clear hef
  generalize (lg_sl ([.ref (ad 224), .int x1, .int x2, .int x3, .int x4]) ++ List.replicate (6 - (lg_sl ([.ref (ad 224), .int x1, .int x2, .int x3, .int x4])).length) Slot.unset).toArray = ls at hl ⊢
  have hl : lv_has ls 6 [(0, .ref (ad 224)), (1, .int x1), (2, .int x2), (3, .int x3), (4, .int x4)] := hl
  clear hP0
  unfold f_X10_shot at hr
  refine lv_aload_n hx hb dX10_shot_0 rfl (lv_at hl 0 rfl) ?_
  refine lv_iload_n hx hb dX10_shot_1 rfl (lv_at hl 1 rfl) ?_
  refine lv_iload_n hx hb dX10_shot_2 rfl (lv_at hl 2 rfl) ?_
  refine lv_iload_n hx hb dX10_shot_3 rfl (lv_at hl 3 rfl) ?_
  refine lv_iload hx hb dX10_shot_4 (lv_at hl 4 rfl) ?_
  obtain ⟨r_1, hc6, hr⟩ := ob1_e hr
  refine xk_i (va_runV (As := [.int x1, .int x2, .int x3, .int x4]) (rest := []) ⟨hx, hb, hml, hown, hts⟩ (c_X10_shotFault l D cA ad M x1 x2 x3 x4 hc6) (cwV 4 hts gX10_shot_X10_shotFault rfl rfl rfl (by decide +kernel) ⟨Nat.le_of_ble_eq_true rfl, Nat.le_of_ble_eq_true rfl⟩) (xpreV hK hW (k := 224) rfl (by decide) rfl) rfl rfl hl.1 rfl (lv_room (Nat.le_of_ble_eq_true rfl)) dX10_shot_6 ⟨Nat.le_of_ble_eq_true rfl, Nat.le_of_ble_eq_true rfl⟩) hW (fun H locs hW => ?_)
  refine lv_istore (lv' := [(5, .int r_1), (0, .ref (ad 224)), (1, .int x1), (2, .int x2), (3, .int x3), (4, .int x4)]) hx hb dX10_shot_9 hl (by decide) rfl (fun ls hl => ?_)
  refine lv_iload hx hb dX10_shot_11 (lv_at hl 0 rfl) ?_
  refine lv_if_eq (tgt := 19) hx hb dX10_shot_13 (by decide) (fun c1 => ?_) (fun c1 => ?_)
  · have hr := br_p c1 hr
    refine lv_aload_n hx hb dX10_shot_19 rfl (lv_at hl 1 rfl) ?_
    refine g10_1 hx hb hts hi10 hown hK hW (k := 224) rfl (hts _ (wm 1 rfl)) dX10_shot_20 ?_
    refine lv_aload_n hx hb dX10_shot_23 rfl (lv_at hl 1 rfl) ?_
    refine g10_0 hx hb hts hi10 hown hK hW (k := 224) rfl (hts _ (wm 2 rfl)) dX10_shot_24 ?_
    obtain ⟨M_2, hc27, hr⟩ := ob1_e hr
    refine xc_v (va_runV (As := [.ref (ad 0)]) (rest := []) ⟨hx, hb, hml, hown, hts⟩ (c_X1_push l D cA ad M hc27) (cwV 1 hts gX10_shot_X1_push rfl rfl rfl (by decide +kernel) ⟨Nat.le_of_ble_eq_true rfl, Nat.le_of_ble_eq_true rfl⟩) (xpreV hK hW (k := 225) rfl (by decide) rfl) rfl rfl hl.1 rfl (lv_room (Nat.le_of_ble_eq_true rfl)) dX10_shot_27 ⟨Nat.le_of_ble_eq_true rfl, Nat.le_of_ble_eq_true rfl⟩) hW (fun ad_3 H locs had2 hW => ?_)
    rw [← had2.1 224 rfl] at hl
    have had := had2
    refine lv_aload_n hx hb dX10_shot_30 rfl (lv_at hl 1 rfl) ?_
    refine lv_iload_n hx hb dX10_shot_31 rfl (lv_at hl 2 rfl) ?_
    refine lv_iload_n hx hb dX10_shot_32 rfl (lv_at hl 3 rfl) ?_
    refine lv_iload_n hx hb dX10_shot_33 rfl (lv_at hl 4 rfl) ?_
    refine lv_iload hx hb dX10_shot_34 (lv_at hl 5 rfl) ?_
    obtain ⟨r_5, M_4, hc36, hr⟩ := ob2_e hr
    refine xk_i (va_runV (As := [.int x1, .int x2, .int x3, .int x4]) (rest := []) ⟨hx, hb, hml, hown, hts⟩ (c_X10_takeShot l D cA ad_3 M_2 x1 x2 x3 x4 hc36) (cwV 4 hts gX10_shot_X10_takeShot rfl rfl rfl (by decide +kernel) ⟨Nat.le_of_ble_eq_true rfl, Nat.le_of_ble_eq_true rfl⟩) (xpreV hK hW (k := 224) rfl (by decide) rfl) rfl rfl hl.1 rfl (lv_room (Nat.le_of_ble_eq_true rfl)) dX10_shot_36 ⟨Nat.le_of_ble_eq_true rfl, Nat.le_of_ble_eq_true rfl⟩) hW (fun H locs hW => ?_)
    obtain ⟨e1, e2⟩ := Prod.mk.inj (Option.some.inj hr)
    rw [← e1, ← e2]
    exact xiret hx hb hr0 hlocks hW had dX10_shot_39
  · have hr := br_n c1 hr
    refine lv_iload hx hb dX10_shot_16 (lv_at hl 0 rfl) ?_
    obtain ⟨e1, e2⟩ := Prod.mk.inj (Option.some.inj hr)
    rw [← e1, ← e2]
    exact xiret hx hb hr0 hlocks hW adR_rf dX10_shot_18

set_option maxHeartbeats 4000000 in
set_option maxRecDepth 100000 in
theorem c_X10_closeRound (l : Launch) (D : va_G) (cA : Nat → ClassId) (ad : Nat → Nat) (M : Mm) {r : Int32} {M' : Mm} (hr : f_X10_closeRound M = some (r, M')) : Met l yX10_closeRound wsX10_closeRound ({ frames := 4, cells := 0, slots := 0, locals := 101 }) (PcX D true cA ad M [.ref (ad 224)]) (QiX true D true cA ad r M') 0 0 (AX true ad) := by
  refine Met.ofW (cc := cX10_closeRound) (maxL := 1) (ret := (some .int)) (by decide) rfl ?_
  intro p e s m args below meth c s₁ B hml hv
  obtain ⟨hav, hP0, hK⟩ := hv
  have hx := B.exec
  have hb := B.bytes
  have hr0 := B.returns
  have hts := atoms_spec (ws := wsX10_closeRound) B.pre
  have hown : s.vm.findClass RX10 = some m.cls := findClass_of_methodNamed B.named
  have hlocks := B.notSynchronized
  have hW := xstart hP0
  have hi2 : ∀ w ∈ wsX20, w ∈ wsX10_closeRound := fun w h => List.mem_cons_of_mem _ (List.mem_append_left _ (List.mem_append_left _ (List.mem_append_left _ (List.mem_append_left _ (List.mem_append_left _ (List.mem_append_right _ h))))))
  have hi8 : ∀ w ∈ wsX80, w ∈ wsX10_closeRound := fun w h => List.mem_cons_of_mem _ (List.mem_append_left _ (List.mem_append_left _ (List.mem_append_left _ (List.mem_append_left _ (List.mem_append_left _ (List.mem_append_left _ (List.mem_append_right _ h)))))))
  have hi10 : ∀ w ∈ wsX100, w ∈ wsX10_closeRound := fun w h => List.mem_cons_of_mem _ (List.mem_append_left _ (List.mem_append_left _ (List.mem_append_left _ (List.mem_append_left _ (List.mem_append_left _ (List.mem_append_left _ (List.mem_append_left _ (List.mem_append_right _ h))))))))
  have hl := lv_entry ([.ref (ad 224)]) (n := 1) (Nat.le_of_ble_eq_true rfl)
  have hef := lg_entry_eq m ([.ref (ad 224)]) 1
  rw [← hav] at hef
  rw [hef]
  clear hef
  generalize (lg_sl ([.ref (ad 224)]) ++ List.replicate (1 - (lg_sl ([.ref (ad 224)])).length) Slot.unset).toArray = ls at hl ⊢
  have hl : lv_has ls 1 [(0, .ref (ad 224))] := hl
  clear hP0
  unfold f_X10_closeRound at hr
  refine lv_aload_n hx hb dX10_closeRound_0 rfl (lv_at hl 0 rfl) ?_
  refine g10_0 hx hb hts hi10 hown hK hW (k := 224) rfl (hts _ (wm 1 rfl)) dX10_closeRound_1 ?_
  refine g8_1 hx hb hts hi8 hown hK hW (k := 0) rfl (hts _ (wm 2 rfl)) dX10_closeRound_4 ?_
  refine lv_if_ne (tgt := 13) hx hb dX10_closeRound_7 (by decide) (fun c1 => ?_) (fun c1 => ?_)
  · have hr := br_n c1 hr
    refine lv_aload_n hx hb dX10_closeRound_13 rfl (lv_at hl 0 rfl) ?_
    refine g10_6 hx hb hts hi10 hown hK hW (k := 224) rfl (hts _ (wm 4 rfl)) dX10_closeRound_14 ?_
    refine lv_aload_n hx hb dX10_closeRound_17 rfl (lv_at hl 0 rfl) ?_
    refine g10_0 hx hb hts hi10 hown hK hW (k := 224) rfl (hts _ (wm 1 rfl)) dX10_closeRound_18 ?_
    refine lv_aload_n hx hb dX10_closeRound_21 rfl (lv_at hl 0 rfl) ?_
    refine g10_0 hx hb hts hi10 hown hK hW (k := 224) rfl (hts _ (wm 1 rfl)) dX10_closeRound_22 ?_
    refine g8_3 hx hb hts hi8 hown hK hW (k := 0) rfl (hts _ (wm 5 rfl)) dX10_closeRound_25 ?_
    refine lv_iconst (v := (1 : Int32)) hx hb dX10_closeRound_28 (by decide) ?_
    refine xiald hx hb hK hW (k := 13) (t := 21) rfl (by decide) (by decide) rfl (n := 5) (by decide) (jx := 1) (by decide) dX10_closeRound_29 ?_
    obtain ⟨M_1, hc30, hr⟩ := ob1_e hr
    refine xk_v (va_runV (As := [.ref (ad 0), .int (gI M 13 1)]) (rest := []) ⟨hx, hb, hml, hown, hts⟩ (c_X2_judge l D cA ad M (gI M 13 1) hc30) (cwV 2 hts gX10_closeRound_X2_judge rfl rfl rfl (by decide +kernel) ⟨Nat.le_of_ble_eq_true rfl, Nat.le_of_ble_eq_true rfl⟩) (xpreV hK hW (k := 232) rfl (by decide) rfl) rfl rfl hl.1 rfl (lv_room (Nat.le_of_ble_eq_true rfl)) dX10_closeRound_30 ⟨Nat.le_of_ble_eq_true rfl, Nat.le_of_ble_eq_true rfl⟩) hW (fun H locs hW => ?_)
    refine lv_aload_n hx hb dX10_closeRound_33 rfl (lv_at hl 0 rfl) ?_
    refine g10_6 hx hb hts hi10 hown hK hW (k := 224) rfl (hts _ (wm 4 rfl)) dX10_closeRound_34 ?_
    refine lv_aload_n hx hb dX10_closeRound_37 rfl (lv_at hl 0 rfl) ?_
    refine g10_0 hx hb hts hi10 hown hK hW (k := 224) rfl (hts _ (wm 1 rfl)) dX10_closeRound_38 ?_
    obtain ⟨M_2, hc41, hr⟩ := ob1_e hr
    refine xc_v (va_runV (As := [.ref (ad 0)]) (rest := []) ⟨hx, hb, hml, hown, hts⟩ (c_X2_settle l D cA ad M_1 hc41) (cwV 1 hts gX10_closeRound_X2_settle rfl rfl rfl (by decide +kernel) ⟨Nat.le_of_ble_eq_true rfl, Nat.le_of_ble_eq_true rfl⟩) (xpreV hK hW (k := 232) rfl (by decide) rfl) rfl rfl hl.1 rfl (lv_room (Nat.le_of_ble_eq_true rfl)) dX10_closeRound_41 ⟨Nat.le_of_ble_eq_true rfl, Nat.le_of_ble_eq_true rfl⟩) hW (fun ad_3 H locs had2 hW => ?_)
    rw [← had2.1 224 rfl] at hl
    have had := had2
    refine lv_aload_n hx hb dX10_closeRound_44 rfl (lv_at hl 0 rfl) ?_
    refine g10_6 hx hb hts hi10 hown hK hW (k := 224) rfl (hts _ (wm 4 rfl)) dX10_closeRound_45 ?_
    refine g2_10 hx hb hts hi2 hown hK hW (k := 232) rfl (hts _ (wm 6 rfl)) dX10_closeRound_48 ?_
    obtain ⟨e1, e2⟩ := Prod.mk.inj (Option.some.inj hr)
    rw [← e1, ← e2]
    exact xiret hx hb hr0 hlocks hW had dX10_closeRound_51
  · have hr := br_p c1 hr
    refine lv_ldc (v := (-2000000003 : Int32)) hx hb hown (hts _ (wm 3 rfl)) dX10_closeRound_10 ?_
    obtain ⟨e1, e2⟩ := Prod.mk.inj (Option.some.inj hr)
    rw [← e1, ← e2]
    exact xiret hx hb hr0 hlocks hW adR_rf dX10_closeRound_12

set_option maxHeartbeats 4000000 in
set_option maxRecDepth 100000 in
theorem c_X10_close (l : Launch) (D : va_G) (cA : Nat → ClassId) (ad : Nat → Nat) (M : Mm) {r : Int32} {M' : Mm} (hr : f_X10_close M = some (r, M')) : Met l yX10_close wsX10_close ({ frames := 5, cells := 0, slots := 0, locals := 124 }) (PcX D true cA ad M [.ref (ad 224)]) (QiX true D true cA ad r M') 0 0 (AX true ad) := by
  refine Met.ofW (cc := cX10_close) (maxL := 1) (ret := (some .int)) (by decide) rfl ?_
  intro p e s m args below meth c s₁ B hml hv
  obtain ⟨hav, hP0, hK⟩ := hv
  have hx := B.exec
  have hb := B.bytes
  have hr0 := B.returns
  have hts := atoms_spec (ws := wsX10_close) B.pre
  have hown : s.vm.findClass RX10 = some m.cls := findClass_of_methodNamed B.named
  have hlocks := B.notSynchronized
  have hW := xstart hP0
  have hi8 : ∀ w ∈ wsX80, w ∈ wsX10_close := fun w h => List.mem_cons_of_mem _ (List.mem_append_left _ (List.mem_append_left _ (List.mem_append_left _ (List.mem_append_left _ (List.mem_append_left _ (List.mem_append_left _ (List.mem_append_left _ (List.mem_append_right _ h))))))))
  have hi10 : ∀ w ∈ wsX100, w ∈ wsX10_close := fun w h => List.mem_cons_of_mem _ (List.mem_append_left _ (List.mem_append_left _ (List.mem_append_left _ (List.mem_append_left _ (List.mem_append_left _ (List.mem_append_left _ (List.mem_append_left _ (List.mem_append_left _ (List.mem_append_right _ h)))))))))
  have hl := lv_entry ([.ref (ad 224)]) (n := 1) (Nat.le_of_ble_eq_true rfl)
  have hef := lg_entry_eq m ([.ref (ad 224)]) 1
  rw [← hav] at hef
  rw [hef]
  clear hef
  generalize (lg_sl ([.ref (ad 224)]) ++ List.replicate (1 - (lg_sl ([.ref (ad 224)])).length) Slot.unset).toArray = ls at hl ⊢
  have hl : lv_has ls 1 [(0, .ref (ad 224))] := hl
  clear hP0
  unfold f_X10_close at hr
  refine lv_aload_n hx hb dX10_close_0 rfl (lv_at hl 0 rfl) ?_
  refine g10_0 hx hb hts hi10 hown hK hW (k := 224) rfl (hts _ (wm 1 rfl)) dX10_close_1 ?_
  refine g8_1 hx hb hts hi8 hown hK hW (k := 0) rfl (hts _ (wm 2 rfl)) dX10_close_4 ?_
  refine lv_if_ne (tgt := 13) hx hb dX10_close_7 (by decide) (fun c1 => ?_) (fun c1 => ?_)
  · have hr := br_n c1 hr
    refine lv_aload_n hx hb dX10_close_13 rfl (lv_at hl 0 rfl) ?_
    refine g10_1 hx hb hts hi10 hown hK hW (k := 224) rfl (hts _ (wm 4 rfl)) dX10_close_14 ?_
    refine lv_aload_n hx hb dX10_close_17 rfl (lv_at hl 0 rfl) ?_
    refine g10_0 hx hb hts hi10 hown hK hW (k := 224) rfl (hts _ (wm 1 rfl)) dX10_close_18 ?_
    obtain ⟨M_1, hc21, hr⟩ := ob1_e hr
    refine xc_v (va_runV (As := [.ref (ad 0)]) (rest := []) ⟨hx, hb, hml, hown, hts⟩ (c_X1_push l D cA ad M hc21) (cwV 1 hts gX10_close_X1_push rfl rfl rfl (by decide +kernel) ⟨Nat.le_of_ble_eq_true rfl, Nat.le_of_ble_eq_true rfl⟩) (xpreV hK hW (k := 225) rfl (by decide) rfl) rfl rfl hl.1 rfl (lv_room (Nat.le_of_ble_eq_true rfl)) dX10_close_21 ⟨Nat.le_of_ble_eq_true rfl, Nat.le_of_ble_eq_true rfl⟩) hW (fun ad_2 H locs had2 hW => ?_)
    rw [← had2.1 224 rfl] at hl
    have had := had2
    refine lv_aload_n hx hb dX10_close_24 rfl (lv_at hl 0 rfl) ?_
    obtain ⟨r_4, M_3, hc25, hr⟩ := ob2_e hr
    refine xc_i (va_runV (As := []) (rest := []) ⟨hx, hb, hml, hown, hts⟩ (c_X10_closeRound l D cA ad_2 M_1 hc25) (cwV 0 hts gX10_close_X10_closeRound rfl rfl rfl (by decide +kernel) ⟨Nat.le_of_ble_eq_true rfl, Nat.le_of_ble_eq_true rfl⟩) (xpreV hK hW (k := 224) rfl (by decide) rfl) rfl rfl hl.1 rfl (lv_room (Nat.le_of_ble_eq_true rfl)) dX10_close_25 ⟨Nat.le_of_ble_eq_true rfl, Nat.le_of_ble_eq_true rfl⟩) hW (fun ad_5 H locs had2 hW => ?_)
    have hl := lv_sub (l' := []) hl [] rfl
    have had := adR_tr had had2
    obtain ⟨e1, e2⟩ := Prod.mk.inj (Option.some.inj hr)
    rw [← e1, ← e2]
    exact xiret hx hb hr0 hlocks hW had dX10_close_28
  · have hr := br_p c1 hr
    refine lv_ldc (v := (-2000000003 : Int32)) hx hb hown (hts _ (wm 3 rfl)) dX10_close_10 ?_
    obtain ⟨e1, e2⟩ := Prod.mk.inj (Option.some.inj hr)
    rw [← e1, ← e2]
    exact xiret hx hb hr0 hlocks hW adR_rf dX10_close_12

set_option maxHeartbeats 4000000 in
set_option maxRecDepth 100000 in
theorem c_X10_swapTransducers (l : Launch) (D : va_G) (cA : Nat → ClassId) (ad : Nat → Nat) (M : Mm) {r : Int32} {M' : Mm} (hr : f_X10_swapTransducers M = some (r, M')) : Met l yX10_swapTransducers wsX10_swapTransducers ({ frames := 3, cells := 0, slots := 0, locals := 66 }) (PcX D true cA ad M [.ref (ad 224)]) (QiX false D true cA ad r M') 0 0 (AX true ad) := by
  refine Met.ofW (cc := cX10_swapTransducers) (maxL := 1) (ret := (some .int)) (by decide) rfl ?_
  intro p e s m args below meth c s₁ B hml hv
  obtain ⟨hav, hP0, hK⟩ := hv
  have hx := B.exec
  have hb := B.bytes
  have hr0 := B.returns
  have hts := atoms_spec (ws := wsX10_swapTransducers) B.pre
  have hown : s.vm.findClass RX10 = some m.cls := findClass_of_methodNamed B.named
  have hlocks := B.notSynchronized
  have hW := xstart hP0
  have hi8 : ∀ w ∈ wsX80, w ∈ wsX10_swapTransducers := fun w h => List.mem_cons_of_mem _ (List.mem_append_left _ (List.mem_append_left _ (List.mem_append_right _ h)))
  have hi10 : ∀ w ∈ wsX100, w ∈ wsX10_swapTransducers := fun w h => List.mem_cons_of_mem _ (List.mem_append_left _ (List.mem_append_left _ (List.mem_append_left _ (List.mem_append_right _ h))))
  have hl := lv_entry ([.ref (ad 224)]) (n := 1) (Nat.le_of_ble_eq_true rfl)
  have hef := lg_entry_eq m ([.ref (ad 224)]) 1
  rw [← hav] at hef
  rw [hef]
  clear hef
  generalize (lg_sl ([.ref (ad 224)]) ++ List.replicate (1 - (lg_sl ([.ref (ad 224)])).length) Slot.unset).toArray = ls at hl ⊢
  have hl : lv_has ls 1 [(0, .ref (ad 224))] := hl
  clear hP0
  unfold f_X10_swapTransducers at hr
  refine lv_aload_n hx hb dX10_swapTransducers_0 rfl (lv_at hl 0 rfl) ?_
  refine g10_0 hx hb hts hi10 hown hK hW (k := 224) rfl (hts _ (wm 1 rfl)) dX10_swapTransducers_1 ?_
  obtain ⟨M_1, hc4, hr⟩ := ob1_e hr
  refine xk_v (va_runV (As := []) (rest := []) ⟨hx, hb, hml, hown, hts⟩ (c_X8_exchangeTimes l D cA ad M hc4) (cwV 0 hts gX10_swapTransducers_X8_exchangeTimes rfl rfl rfl (by decide +kernel) ⟨Nat.le_of_ble_eq_true rfl, Nat.le_of_ble_eq_true rfl⟩) (xpreV hK hW (k := 0) rfl (by decide) rfl) rfl rfl hl.1 rfl (lv_room (Nat.le_of_ble_eq_true rfl)) dX10_swapTransducers_4 ⟨Nat.le_of_ble_eq_true rfl, Nat.le_of_ble_eq_true rfl⟩) hW (fun H locs hW => ?_)
  refine lv_aload_n hx hb dX10_swapTransducers_7 rfl (lv_at hl 0 rfl) ?_
  refine g10_0 hx hb hts hi10 hown hK hW (k := 224) rfl (hts _ (wm 1 rfl)) dX10_swapTransducers_8 ?_
  refine lv_aload_n hx hb dX10_swapTransducers_11 rfl (lv_at hl 0 rfl) ?_
  refine g10_0 hx hb hts hi10 hown hK hW (k := 224) rfl (hts _ (wm 1 rfl)) dX10_swapTransducers_12 ?_
  refine g8_4 hx hb hts hi8 hown hK hW (k := 0) rfl (hts _ (wm 2 rfl)) dX10_swapTransducers_15 ?_
  obtain ⟨y_2, hr, hr3⟩ := ob1_e hr
  have hj26_2 : ∀ (H : Heap) (locs : List Loc) (ls : Array Slot), Xw D true cA ad M_1 (AX true ad) s.heap H locs → lv_has ls 1 [(0, .ref (ad 224))] → W p l e (headSpec wsX10_swapTransducers { frames := 3, cells := 0, slots := 0, locals := 66 }).room s m args below meth c H locs 0 0 (MQ below (QiX false D true cA ad r M') args s 0 0 (AX true ad)) (F0 m 26 ls [.int y_2, .ref (ad 0)]) := by
    intro H locs ls hW hl
    have hr := hr3
    obtain ⟨hz26, hr⟩ := chk_e hr
    obtain ⟨M_3, eM_3, hr⟩ := lt1_e hr
    refine p8_4 hx hb hts hi8 hown hK hW (k := 0) rfl (hts _ (wm 2 rfl)) hz26 dX10_swapTransducers_26 (fun H locs hW => ?_)
    rw [← eM_3] at hW
    refine lv_aload_n hx hb dX10_swapTransducers_29 rfl (lv_at hl 0 rfl) ?_
    refine g10_0 hx hb hts hi10 hown hK hW (k := 224) rfl (hts _ (wm 1 rfl)) dX10_swapTransducers_30 ?_
    refine g8_4 hx hb hts hi8 hown hK hW (k := 0) rfl (hts _ (wm 2 rfl)) dX10_swapTransducers_33 ?_
    obtain ⟨r_4, hc36, hr⟩ := ob1_e hr
    refine xk_i (va_runS (As := [.int (gI M_3 0 4)]) (rest := []) ⟨hx, hb, hml, hown, hts⟩ (c_X10_asNumber l D cA ad M_3 (gI M_3 0 4) hc36) (va_cwS 1 hts gX10_swapTransducers_X10_asNumber rfl rfl rfl (by decide +kernel) ⟨Nat.le_of_ble_eq_true rfl, Nat.le_of_ble_eq_true rfl⟩) (xpreS hK hW) rfl rfl hl.1 rfl (lv_room (Nat.le_of_ble_eq_true rfl)) dX10_swapTransducers_36 ⟨Nat.le_of_ble_eq_true rfl, Nat.le_of_ble_eq_true rfl⟩) hW (fun H locs hW => ?_)
    obtain ⟨e1, e2⟩ := Prod.mk.inj (Option.some.inj hr)
    rw [← e1, ← e2]
    exact xiret hx hb hr0 hlocks hW adR_rf dX10_swapTransducers_39
  clear hr3
  refine lv_if_ne (tgt := 25) hx hb dX10_swapTransducers_18 (by decide) (fun c1 => ?_) (fun c1 => ?_)
  · have hr := br_n c1 hr
    refine lv_iconst (v := (0 : Int32)) hx hb dX10_swapTransducers_25 (by decide) ?_
    have e1 := Option.some.inj hr
    subst e1
    exact hj26_2 _ _ _ hW (lv_sub hl [0] rfl)
  · have hr := br_p c1 hr
    refine lv_iconst (v := (1 : Int32)) hx hb dX10_swapTransducers_21 (by decide) ?_
    refine lv_goto (tgt := 26) hx hb dX10_swapTransducers_22 (by decide) ?_
    have e1 := Option.some.inj hr
    subst e1
    exact hj26_2 _ _ _ hW (lv_sub hl [0] rfl)

set_option maxHeartbeats 4000000 in
set_option maxRecDepth 100000 in
theorem c_X10_swap (l : Launch) (D : va_G) (cA : Nat → ClassId) (ad : Nat → Nat) (M : Mm) {r : Int32} {M' : Mm} (hr : f_X10_swap M = some (r, M')) : Met l yX10_swap wsX10_swap ({ frames := 4, cells := 0, slots := 0, locals := 124 }) (PcX D true cA ad M [.ref (ad 224)]) (QiX true D true cA ad r M') 0 0 (AX true ad) := by
  refine Met.ofW (cc := cX10_swap) (maxL := 1) (ret := (some .int)) (by decide) rfl ?_
  intro p e s m args below meth c s₁ B hml hv
  obtain ⟨hav, hP0, hK⟩ := hv
  have hx := B.exec
  have hb := B.bytes
  have hr0 := B.returns
  have hts := atoms_spec (ws := wsX10_swap) B.pre
  have hown : s.vm.findClass RX10 = some m.cls := findClass_of_methodNamed B.named
  have hlocks := B.notSynchronized
  have hW := xstart hP0
  have hi10 : ∀ w ∈ wsX100, w ∈ wsX10_swap := fun w h => List.mem_cons_of_mem _ (List.mem_append_left _ (List.mem_append_left _ (List.mem_append_left _ (List.mem_append_left _ (List.mem_append_left _ (List.mem_append_left _ (List.mem_append_left _ (List.mem_append_right _ h))))))))
  have hl := lv_entry ([.ref (ad 224)]) (n := 1) (Nat.le_of_ble_eq_true rfl)
  have hef := lg_entry_eq m ([.ref (ad 224)]) 1
  rw [← hav] at hef
  rw [hef]
  clear hef
  generalize (lg_sl ([.ref (ad 224)]) ++ List.replicate (1 - (lg_sl ([.ref (ad 224)])).length) Slot.unset).toArray = ls at hl ⊢
  have hl : lv_has ls 1 [(0, .ref (ad 224))] := hl
  clear hP0
  unfold f_X10_swap at hr
  refine lv_aload_n hx hb dX10_swap_0 rfl (lv_at hl 0 rfl) ?_
  refine g10_1 hx hb hts hi10 hown hK hW (k := 224) rfl (hts _ (wm 1 rfl)) dX10_swap_1 ?_
  refine lv_aload_n hx hb dX10_swap_4 rfl (lv_at hl 0 rfl) ?_
  refine g10_0 hx hb hts hi10 hown hK hW (k := 224) rfl (hts _ (wm 2 rfl)) dX10_swap_5 ?_
  obtain ⟨M_1, hc8, hr⟩ := ob1_e hr
  refine xc_v (va_runV (As := [.ref (ad 0)]) (rest := []) ⟨hx, hb, hml, hown, hts⟩ (c_X1_push l D cA ad M hc8) (cwV 1 hts gX10_swap_X1_push rfl rfl rfl (by decide +kernel) ⟨Nat.le_of_ble_eq_true rfl, Nat.le_of_ble_eq_true rfl⟩) (xpreV hK hW (k := 225) rfl (by decide) rfl) rfl rfl hl.1 rfl (lv_room (Nat.le_of_ble_eq_true rfl)) dX10_swap_8 ⟨Nat.le_of_ble_eq_true rfl, Nat.le_of_ble_eq_true rfl⟩) hW (fun ad_2 H locs had2 hW => ?_)
  rw [← had2.1 224 rfl] at hl
  have had := had2
  refine lv_aload_n hx hb dX10_swap_11 rfl (lv_at hl 0 rfl) ?_
  obtain ⟨r_4, M_3, hc12, hr⟩ := ob2_e hr
  refine xk_i (va_runV (As := []) (rest := []) ⟨hx, hb, hml, hown, hts⟩ (c_X10_swapTransducers l D cA ad_2 M_1 hc12) (cwV 0 hts gX10_swap_X10_swapTransducers rfl rfl rfl (by decide +kernel) ⟨Nat.le_of_ble_eq_true rfl, Nat.le_of_ble_eq_true rfl⟩) (xpreV hK hW (k := 224) rfl (by decide) rfl) rfl rfl hl.1 rfl (lv_room (Nat.le_of_ble_eq_true rfl)) dX10_swap_12 ⟨Nat.le_of_ble_eq_true rfl, Nat.le_of_ble_eq_true rfl⟩) hW (fun H locs hW => ?_)
  obtain ⟨e1, e2⟩ := Prod.mk.inj (Option.some.inj hr)
  rw [← e1, ← e2]
  exact xiret hx hb hr0 hlocks hW had dX10_swap_15

set_option maxHeartbeats 4000000 in
set_option maxRecDepth 100000 in
theorem c_X10_forget (l : Launch) (D : va_G) (cA : Nat → ClassId) (ad : Nat → Nat) (M : Mm) (x1 : Int32) {r : Int32} {M' : Mm} (hr : f_X10_forget x1 M = some (r, M')) : Met l yX10_forget wsX10_forget ({ frames := 4, cells := 0, slots := 0, locals := 124 }) (PcX D true cA ad M [.ref (ad 224), .int x1]) (QiX true D true cA ad r M') 0 0 (AX true ad) := by
  refine Met.ofW (cc := cX10_forget) (maxL := 4) (ret := (some .int)) (by decide) rfl ?_
  intro p e s m args below meth c s₁ B hml hv
  obtain ⟨hav, hP0, hK⟩ := hv
  have hx := B.exec
  have hb := B.bytes
  have hr0 := B.returns
  have hts := atoms_spec (ws := wsX10_forget) B.pre
  have hown : s.vm.findClass RX10 = some m.cls := findClass_of_methodNamed B.named
  have hlocks := B.notSynchronized
  have hW := xstart hP0
  have hi3 : ∀ w ∈ wsX30, w ∈ wsX10_forget := fun w h => List.mem_cons_of_mem _ (List.mem_append_left _ (List.mem_append_left _ (List.mem_append_left _ (List.mem_append_left _ (List.mem_append_left _ (List.mem_append_left _ (List.mem_append_right _ h)))))))
  have hi10 : ∀ w ∈ wsX100, w ∈ wsX10_forget := fun w h => List.mem_cons_of_mem _ (List.mem_append_left _ (List.mem_append_left _ (List.mem_append_left _ (List.mem_append_left _ (List.mem_append_left _ (List.mem_append_left _ (List.mem_append_left _ (List.mem_append_right _ h))))))))
  have hl := lv_entry ([.ref (ad 224), .int x1]) (n := 4) (Nat.le_of_ble_eq_true rfl)
  have hef := lg_entry_eq m ([.ref (ad 224), .int x1]) 4
  rw [← hav] at hef
  rw [hef]
  clear hef
  generalize (lg_sl ([.ref (ad 224), .int x1]) ++ List.replicate (4 - (lg_sl ([.ref (ad 224), .int x1])).length) Slot.unset).toArray = ls at hl ⊢
  have hl : lv_has ls 4 [(0, .ref (ad 224)), (1, .int x1)] := hl
  clear hP0
  unfold f_X10_forget at hr
  refine lv_aload_n hx hb dX10_forget_0 rfl (lv_at hl 0 rfl) ?_
  refine g10_0 hx hb hts hi10 hown hK hW (k := 224) rfl (hts _ (wm 1 rfl)) dX10_forget_1 ?_
  refine lv_iload_n hx hb dX10_forget_4 rfl (lv_at hl 1 rfl) ?_
  obtain ⟨r_1, hc5, hr⟩ := ob1_e hr
  refine xk_q (va_runV (As := [.int x1]) (rest := []) ⟨hx, hb, hml, hown, hts⟩ (c_X8_pathAt l D cA ad M x1 hc5) (cwV 1 hts gX10_forget_X8_pathAt rfl rfl rfl (by decide +kernel) ⟨Nat.le_of_ble_eq_true rfl, Nat.le_of_ble_eq_true rfl⟩) (xpreV hK hW (k := 0) rfl (by decide) rfl) rfl rfl hl.1 rfl (lv_room (Nat.le_of_ble_eq_true rfl)) dX10_forget_5 ⟨Nat.le_of_ble_eq_true rfl, Nat.le_of_ble_eq_true rfl⟩) hW (fun H locs hW => ?_)
  cases r_1 with
  | none =>
    have hr : _ = _ := hr
    simp only [onl] at hr
    refine lv_astore_nN (lv' := [(2, .null), (0, .ref (ad 224)), (1, .int x1)]) hx hb dX10_forget_8 rfl hl (by decide) rfl (fun ls hl => ?_)
    refine lv_aload_nN hx hb dX10_forget_9 rfl (lv_at hl 0 rfl) ?_
    refine lv_ifnonnullN hx hb dX10_forget_10 ?_
    refine lv_ldc (v := (-2000000001 : Int32)) hx hb hown (hts _ (wm 2 rfl)) dX10_forget_13 ?_
    obtain ⟨e1, e2⟩ := Prod.mk.inj (Option.some.inj hr)
    rw [← e1, ← e2]
    exact xiret hx hb hr0 hlocks hW adR_rf dX10_forget_15
  | some k_2 =>
    simp only [onl] at hr
    obtain ⟨hk5, hr⟩ := chk_e hr
    have hk5 := of_decide_eq_true hk5
    refine lv_astore_n (lv' := [(2, .ref (ad k_2)), (0, .ref (ad 224)), (1, .int x1)]) hx hb dX10_forget_8 rfl hl (by decide) rfl (fun ls hl => ?_)
    refine lv_aload_n hx hb dX10_forget_9 rfl (lv_at hl 0 rfl) ?_
    refine lv_ifnonnull (tgt := 16) hx hb dX10_forget_10 (by decide) ?_
    refine lv_aload_n hx hb dX10_forget_16 rfl (lv_at hl 1 rfl) ?_
    refine g10_1 hx hb hts hi10 hown hK hW (k := 224) rfl (hts _ (wm 3 rfl)) dX10_forget_17 ?_
    refine lv_aload_n hx hb dX10_forget_20 rfl (lv_at hl 1 rfl) ?_
    refine g10_0 hx hb hts hi10 hown hK hW (k := 224) rfl (hts _ (wm 1 rfl)) dX10_forget_21 ?_
    obtain ⟨hst24_2, hr⟩ := chk_e hr
    obtain ⟨M_3, hc24, hr⟩ := ob1_e hr
    refine xc_v (va_runV (As := [.ref (ad 0)]) (rest := []) ⟨hx, hb, hml, hown, hts⟩ (c_X1_push l D cA ad M hc24) (cwV 1 hts gX10_forget_X1_push rfl rfl rfl (by decide +kernel) ⟨Nat.le_of_ble_eq_true rfl, Nat.le_of_ble_eq_true rfl⟩) (xpreV hK hW (k := 225) rfl (by decide) rfl) rfl rfl hl.1 rfl (lv_room (Nat.le_of_ble_eq_true rfl)) dX10_forget_24 ⟨Nat.le_of_ble_eq_true rfl, Nat.le_of_ble_eq_true rfl⟩) hW (fun ad_4 H locs had2 hW => ?_)
    have hl := lv_sub (l' := [(2, .ref (ad k_2)), (1, .int x1)]) hl [0, 2] rfl
    rw [← had2.1 k_2 hst24_2] at hl
    have had := had2
    refine lv_aload_n hx hb dX10_forget_27 rfl (lv_at hl 0 rfl) ?_
    refine g3_5 hx hb hts hi3 hown hK hW (k := k_2) hk5 (hts _ (wm 4 rfl)) dX10_forget_28 ?_
    obtain ⟨r_5, hc31, hr⟩ := ob1_e hr
    refine xk_i (va_runS (As := [.int (gI M_3 k_2 5)]) (rest := []) ⟨hx, hb, hml, hown, hts⟩ (c_X10_asNumber l D cA ad_4 M_3 (gI M_3 k_2 5) hc31) (va_cwS 1 hts gX10_forget_X10_asNumber rfl rfl rfl (by decide +kernel) ⟨Nat.le_of_ble_eq_true rfl, Nat.le_of_ble_eq_true rfl⟩) (xpreS hK hW) rfl rfl hl.1 rfl (lv_room (Nat.le_of_ble_eq_true rfl)) dX10_forget_31 ⟨Nat.le_of_ble_eq_true rfl, Nat.le_of_ble_eq_true rfl⟩) hW (fun H locs hW => ?_)
    refine lv_istore_n (lv' := [(3, .int r_5), (2, .ref (ad_4 k_2)), (1, .int x1)]) hx hb dX10_forget_34 rfl hl (by decide) rfl (fun ls hl => ?_)
    refine lv_aload_n hx hb dX10_forget_35 rfl (lv_at hl 1 rfl) ?_
    refine lv_iconst (v := (0 : Int32)) hx hb dX10_forget_36 (by decide) ?_
    obtain ⟨M_6, eM_6, hr⟩ := lt1_e hr
    refine p3_5 hx hb hts hi3 hown hK hW (k := k_2) hk5 (hts _ (wm 4 rfl)) (by decide) dX10_forget_37 (fun H locs hW => ?_)
    rw [← eM_6] at hW
    refine lv_aload_n hx hb dX10_forget_40 rfl (lv_at hl 1 rfl) ?_
    refine lv_iconst (v := (0 : Int32)) hx hb dX10_forget_41 (by decide) ?_
    obtain ⟨M_7, eM_7, hr⟩ := lt1_e hr
    refine p3_8 hx hb hts hi3 hown hK hW (k := k_2) hk5 (hts _ (wm 5 rfl)) (by decide) dX10_forget_42 (fun H locs hW => ?_)
    rw [← eM_7] at hW
    refine lv_iload_n hx hb dX10_forget_45 rfl (lv_at hl 0 rfl) ?_
    obtain ⟨e1, e2⟩ := Prod.mk.inj (Option.some.inj hr)
    rw [← e1, ← e2]
    exact xiret hx hb hr0 hlocks hW had dX10_forget_46

set_option maxHeartbeats 4000000 in
set_option maxRecDepth 100000 in
theorem c_X10_undo (l : Launch) (D : va_G) (cA : Nat → ClassId) (ad : Nat → Nat) (M : Mm) {r : Int32} {M' : Mm} (hr : f_X10_undo M = some (r, M')) : Met l yX10_undo wsX10_undo ({ frames := 4, cells := 0, slots := 0, locals := 124 }) (PcX D true cA ad M [.ref (ad 224)]) (QiX false D true cA ad r M') 0 0 (AX true ad) := by
  refine Met.ofW (cc := cX10_undo) (maxL := 1) (ret := (some .int)) (by decide) rfl ?_
  intro p e s m args below meth c s₁ B hml hv
  obtain ⟨hav, hP0, hK⟩ := hv
  have hx := B.exec
  have hb := B.bytes
  have hr0 := B.returns
  have hts := atoms_spec (ws := wsX10_undo) B.pre
  have hown : s.vm.findClass RX10 = some m.cls := findClass_of_methodNamed B.named
  have hlocks := B.notSynchronized
  have hW := xstart hP0
  have hi1 : ∀ w ∈ wsX10, w ∈ wsX10_undo := fun w h => List.mem_cons_of_mem _ (List.mem_append_left _ (List.mem_append_left _ (List.mem_append_left _ (List.mem_append_left _ (List.mem_append_left _ (List.mem_append_left _ (List.mem_append_right _ h)))))))
  have hi10 : ∀ w ∈ wsX100, w ∈ wsX10_undo := fun w h => List.mem_cons_of_mem _ (List.mem_append_left _ (List.mem_append_left _ (List.mem_append_left _ (List.mem_append_left _ (List.mem_append_left _ (List.mem_append_left _ (List.mem_append_left _ (List.mem_append_right _ h))))))))
  have hl := lv_entry ([.ref (ad 224)]) (n := 1) (Nat.le_of_ble_eq_true rfl)
  have hef := lg_entry_eq m ([.ref (ad 224)]) 1
  rw [← hav] at hef
  rw [hef]
  clear hef
  generalize (lg_sl ([.ref (ad 224)]) ++ List.replicate (1 - (lg_sl ([.ref (ad 224)])).length) Slot.unset).toArray = ls at hl ⊢
  have hl : lv_has ls 1 [(0, .ref (ad 224))] := hl
  clear hP0
  unfold f_X10_undo at hr
  refine lv_aload_n hx hb dX10_undo_0 rfl (lv_at hl 0 rfl) ?_
  refine g10_1 hx hb hts hi10 hown hK hW (k := 224) rfl (hts _ (wm 1 rfl)) dX10_undo_1 ?_
  refine g1_1 hx hb hts hi1 hown hK hW (k := 225) rfl (hts _ (wm 2 rfl)) dX10_undo_4 ?_
  refine lv_if_ne (tgt := 13) hx hb dX10_undo_7 (by decide) (fun c1 => ?_) (fun c1 => ?_)
  · have hr := br_n c1 hr
    refine lv_aload_n hx hb dX10_undo_13 rfl (lv_at hl 0 rfl) ?_
    refine g10_1 hx hb hts hi10 hown hK hW (k := 224) rfl (hts _ (wm 1 rfl)) dX10_undo_14 ?_
    refine lv_aload_n hx hb dX10_undo_17 rfl (lv_at hl 0 rfl) ?_
    refine g10_0 hx hb hts hi10 hown hK hW (k := 224) rfl (hts _ (wm 4 rfl)) dX10_undo_18 ?_
    obtain ⟨M_1, hc21, hr⟩ := ob1_e hr
    refine xk_v (va_runV (As := [.ref (ad 0)]) (rest := []) ⟨hx, hb, hml, hown, hts⟩ (c_X1_pop l D cA ad M hc21) (cwV 1 hts gX10_undo_X1_pop rfl rfl rfl (by decide +kernel) ⟨Nat.le_of_ble_eq_true rfl, Nat.le_of_ble_eq_true rfl⟩) (xpreV hK hW (k := 225) rfl (by decide) rfl) rfl rfl hl.1 rfl (lv_room (Nat.le_of_ble_eq_true rfl)) dX10_undo_21 ⟨Nat.le_of_ble_eq_true rfl, Nat.le_of_ble_eq_true rfl⟩) hW (fun H locs hW => ?_)
    refine lv_aload_n hx hb dX10_undo_24 rfl (lv_at hl 0 rfl) ?_
    refine g10_1 hx hb hts hi10 hown hK hW (k := 224) rfl (hts _ (wm 1 rfl)) dX10_undo_25 ?_
    refine g1_1 hx hb hts hi1 hown hK hW (k := 225) rfl (hts _ (wm 2 rfl)) dX10_undo_28 ?_
    obtain ⟨e1, e2⟩ := Prod.mk.inj (Option.some.inj hr)
    rw [← e1, ← e2]
    exact xiret hx hb hr0 hlocks hW adR_rf dX10_undo_31
  · have hr := br_p c1 hr
    refine lv_ldc (v := (-2000000003 : Int32)) hx hb hown (hts _ (wm 3 rfl)) dX10_undo_10 ?_
    obtain ⟨e1, e2⟩ := Prod.mk.inj (Option.some.inj hr)
    rw [← e1, ← e2]
    exact xiret hx hb hr0 hlocks hW adR_rf dX10_undo_12

set_option maxHeartbeats 4000000 in
set_option maxRecDepth 100000 in
theorem c_X10_save (l : Launch) (D : va_G) (cA : Nat → ClassId) (ad : Nat → Nat) (M : Mm) (x1 : Int32) {r : Int32} {M' : Mm} (hr : f_X10_save x1 M = some (r, M')) : Met l yX10_save wsX10_save ({ frames := 3, cells := 0, slots := 0, locals := 103 }) (PcX D true cA ad M [.ref (ad 224), .int x1]) (QiX false D true cA ad r M') 0 0 (AX true ad) := by
  refine Met.ofW (cc := cX10_save) (maxL := 2) (ret := (some .int)) (by decide) rfl ?_
  intro p e s m args below meth c s₁ B hml hv
  obtain ⟨hav, hP0, hK⟩ := hv
  have hx := B.exec
  have hb := B.bytes
  have hr0 := B.returns
  have hts := atoms_spec (ws := wsX10_save) B.pre
  have hown : s.vm.findClass RX10 = some m.cls := findClass_of_methodNamed B.named
  have hlocks := B.notSynchronized
  have hW := xstart hP0
  have hi8 : ∀ w ∈ wsX80, w ∈ wsX10_save := fun w h => List.mem_cons_of_mem _ (List.mem_append_left _ (List.mem_append_left _ (List.mem_append_left _ (List.mem_append_left _ (List.mem_append_left _ (List.mem_append_right _ h))))))
  have hi10 : ∀ w ∈ wsX100, w ∈ wsX10_save := fun w h => List.mem_cons_of_mem _ (List.mem_append_left _ (List.mem_append_left _ (List.mem_append_left _ (List.mem_append_left _ (List.mem_append_left _ (List.mem_append_left _ (List.mem_append_right _ h)))))))
  have hl := lv_entry ([.ref (ad 224), .int x1]) (n := 2) (Nat.le_of_ble_eq_true rfl)
  have hef := lg_entry_eq m ([.ref (ad 224), .int x1]) 2
  rw [← hav] at hef
  rw [hef]
  clear hef
  generalize (lg_sl ([.ref (ad 224), .int x1]) ++ List.replicate (2 - (lg_sl ([.ref (ad 224), .int x1])).length) Slot.unset).toArray = ls at hl ⊢
  have hl : lv_has ls 2 [(0, .ref (ad 224)), (1, .int x1)] := hl
  clear hP0
  unfold f_X10_save at hr
  refine lv_iload_n hx hb dX10_save_0 rfl (lv_at hl 1 rfl) ?_
  refine lv_if_lt (tgt := 9) hx hb dX10_save_1 (by decide) (fun c1 => ?_) (fun c1 => ?_)
  · have hr := br_p c1 hr
    refine lv_ldc (v := (-2000000001 : Int32)) hx hb hown (hts _ (wm 1 rfl)) dX10_save_9 ?_
    obtain ⟨e1, e2⟩ := Prod.mk.inj (Option.some.inj hr)
    rw [← e1, ← e2]
    exact xiret hx hb hr0 hlocks hW adR_rf dX10_save_11
  · have hr := br_n c1 hr
    refine lv_iload_n hx hb dX10_save_4 rfl (lv_at hl 1 rfl) ?_
    refine lv_iconst (v := (2 : Int32)) hx hb dX10_save_5 (by decide) ?_
    refine lv_icmp_lt (tgt := 12) hx hb dX10_save_6 (by decide) (fun c1 => ?_) (fun c1 => ?_)
    · have hr := br_p c1 hr
      refine lv_aload_n hx hb dX10_save_12 rfl (lv_at hl 0 rfl) ?_
      refine g10_2 hx hb hts hi10 hown hK hW (k := 224) rfl (hts _ (wm 2 rfl)) dX10_save_13 ?_
      refine lv_iload_n hx hb dX10_save_16 rfl (lv_at hl 1 rfl) ?_
      obtain ⟨hn17, hr⟩ := chk_e hr
      refine xaald hx hb hK hW (k := 227) (t := 53) rfl (by decide) (by decide) rfl (t0 := 5) rfl hn17 dX10_save_17 ?_
      refine lv_aload_n hx hb dX10_save_18 rfl (lv_at hl 0 rfl) ?_
      refine g10_0 hx hb hts hi10 hown hK hW (k := 224) rfl (hts _ (wm 3 rfl)) dX10_save_19 ?_
      obtain ⟨M_1, hc22, hr⟩ := ob1_e hr
      refine xk_v (va_runV (As := [.ref (ad 0)]) (rest := []) ⟨hx, hb, hml, hown, hts⟩ (c_X8_copyFrom l D cA ad M (rid 53 227 (ix x1)) 0 (ks_53 (k := 227) rfl hn17) (rfl : KS true 0 = 8) hc22) (cwV 1 hts gX10_save_X8_copyFrom rfl rfl rfl (by decide +kernel) ⟨Nat.le_of_ble_eq_true rfl, Nat.le_of_ble_eq_true rfl⟩) (xpreV hK hW (k := (rid 53 227 (ix x1))) (ks_53 (k := 227) rfl hn17) (by decide) rfl) rfl rfl hl.1 rfl (lv_room (Nat.le_of_ble_eq_true rfl)) dX10_save_22 ⟨Nat.le_of_ble_eq_true rfl, Nat.le_of_ble_eq_true rfl⟩) hW (fun H locs hW => ?_)
      refine lv_aload_n hx hb dX10_save_25 rfl (lv_at hl 0 rfl) ?_
      refine g10_3 hx hb hts hi10 hown hK hW (k := 224) rfl (hts _ (wm 4 rfl)) dX10_save_26 ?_
      refine lv_iload_n hx hb dX10_save_29 rfl (lv_at hl 1 rfl) ?_
      refine lv_iconst (v := (1 : Int32)) hx hb dX10_save_30 (by decide) ?_
      obtain ⟨hn31, hr⟩ := chk_e hr
      obtain ⟨M_2, eM_2, hr⟩ := lt1_e hr
      refine xzast hx hb hK hW (k := 228) (t := 31) rfl (by decide) (by decide) rfl (n := 2) hn31 (jx := (ix x1)) rfl (by decide) dX10_save_31 (fun H locs hW => ?_)
      rw [← eM_2] at hW
      refine lv_aload_n hx hb dX10_save_32 rfl (lv_at hl 0 rfl) ?_
      refine g10_0 hx hb hts hi10 hown hK hW (k := 224) rfl (hts _ (wm 3 rfl)) dX10_save_33 ?_
      refine g8_6 hx hb hts hi8 hown hK hW (k := 0) rfl (hts _ (wm 5 rfl)) dX10_save_36 ?_
      obtain ⟨e1, e2⟩ := Prod.mk.inj (Option.some.inj hr)
      rw [← e1, ← e2]
      exact xiret hx hb hr0 hlocks hW adR_rf dX10_save_39
    · have hr := br_n c1 hr
      refine lv_ldc (v := (-2000000001 : Int32)) hx hb hown (hts _ (wm 1 rfl)) dX10_save_9 ?_
      obtain ⟨e1, e2⟩ := Prod.mk.inj (Option.some.inj hr)
      rw [← e1, ← e2]
      exact xiret hx hb hr0 hlocks hW adR_rf dX10_save_11

set_option maxHeartbeats 4000000 in
set_option maxRecDepth 100000 in
theorem c_X10_restore (l : Launch) (D : va_G) (cA : Nat → ClassId) (ad : Nat → Nat) (M : Mm) (x1 : Int32) {r : Int32} {M' : Mm} (hr : f_X10_restore x1 M = some (r, M')) : Met l yX10_restore wsX10_restore ({ frames := 4, cells := 0, slots := 0, locals := 124 }) (PcX D true cA ad M [.ref (ad 224), .int x1]) (QiX true D true cA ad r M') 0 0 (AX true ad) := by
  refine Met.ofW (cc := cX10_restore) (maxL := 2) (ret := (some .int)) (by decide) rfl ?_
  intro p e s m args below meth c s₁ B hml hv
  obtain ⟨hav, hP0, hK⟩ := hv
  have hx := B.exec
  have hb := B.bytes
  have hr0 := B.returns
  have hts := atoms_spec (ws := wsX10_restore) B.pre
  have hown : s.vm.findClass RX10 = some m.cls := findClass_of_methodNamed B.named
  have hlocks := B.notSynchronized
  have hW := xstart hP0
  have hi8 : ∀ w ∈ wsX80, w ∈ wsX10_restore := fun w h => List.mem_cons_of_mem _ (List.mem_append_left _ (List.mem_append_left _ (List.mem_append_left _ (List.mem_append_left _ (List.mem_append_left _ (List.mem_append_left _ (List.mem_append_right _ h)))))))
  have hi10 : ∀ w ∈ wsX100, w ∈ wsX10_restore := fun w h => List.mem_cons_of_mem _ (List.mem_append_left _ (List.mem_append_left _ (List.mem_append_left _ (List.mem_append_left _ (List.mem_append_left _ (List.mem_append_left _ (List.mem_append_left _ (List.mem_append_right _ h))))))))
  have hl := lv_entry ([.ref (ad 224), .int x1]) (n := 2) (Nat.le_of_ble_eq_true rfl)
  have hef := lg_entry_eq m ([.ref (ad 224), .int x1]) 2
  rw [← hav] at hef
  rw [hef]
  clear hef
  generalize (lg_sl ([.ref (ad 224), .int x1]) ++ List.replicate (2 - (lg_sl ([.ref (ad 224), .int x1])).length) Slot.unset).toArray = ls at hl ⊢
  have hl : lv_has ls 2 [(0, .ref (ad 224)), (1, .int x1)] := hl
  clear hP0
  unfold f_X10_restore at hr
  refine lv_iload_n hx hb dX10_restore_0 rfl (lv_at hl 1 rfl) ?_
  refine lv_if_lt (tgt := 9) hx hb dX10_restore_1 (by decide) (fun c1 => ?_) (fun c1 => ?_)
  · have hr := br_p c1 hr
    refine lv_ldc (v := (-2000000001 : Int32)) hx hb hown (hts _ (wm 1 rfl)) dX10_restore_9 ?_
    obtain ⟨e1, e2⟩ := Prod.mk.inj (Option.some.inj hr)
    rw [← e1, ← e2]
    exact xiret hx hb hr0 hlocks hW adR_rf dX10_restore_11
  · have hr := br_n c1 hr
    refine lv_iload_n hx hb dX10_restore_4 rfl (lv_at hl 1 rfl) ?_
    refine lv_iconst (v := (2 : Int32)) hx hb dX10_restore_5 (by decide) ?_
    refine lv_icmp_lt (tgt := 12) hx hb dX10_restore_6 (by decide) (fun c1 => ?_) (fun c1 => ?_)
    · have hr := br_p c1 hr
      refine lv_aload_n hx hb dX10_restore_12 rfl (lv_at hl 0 rfl) ?_
      refine g10_3 hx hb hts hi10 hown hK hW (k := 224) rfl (hts _ (wm 2 rfl)) dX10_restore_13 ?_
      refine lv_iload_n hx hb dX10_restore_16 rfl (lv_at hl 1 rfl) ?_
      obtain ⟨hn17, hr⟩ := chk_e hr
      refine xzald hx hb hK hW (k := 228) (t := 31) rfl (by decide) (by decide) rfl (n := 2) hn17 (jx := (ix x1)) rfl dX10_restore_17 ?_
      refine lv_if_ne (tgt := 24) hx hb dX10_restore_18 (by decide) (fun c1 => ?_) (fun c1 => ?_)
      · have hr := br_n c1 hr
        refine lv_aload_n hx hb dX10_restore_24 rfl (lv_at hl 0 rfl) ?_
        refine g10_1 hx hb hts hi10 hown hK hW (k := 224) rfl (hts _ (wm 4 rfl)) dX10_restore_25 ?_
        refine lv_aload_n hx hb dX10_restore_28 rfl (lv_at hl 0 rfl) ?_
        refine g10_0 hx hb hts hi10 hown hK hW (k := 224) rfl (hts _ (wm 5 rfl)) dX10_restore_29 ?_
        obtain ⟨M_1, hc32, hr⟩ := ob1_e hr
        refine xc_v (va_runV (As := [.ref (ad 0)]) (rest := []) ⟨hx, hb, hml, hown, hts⟩ (c_X1_push l D cA ad M hc32) (cwV 1 hts gX10_restore_X1_push rfl rfl rfl (by decide +kernel) ⟨Nat.le_of_ble_eq_true rfl, Nat.le_of_ble_eq_true rfl⟩) (xpreV hK hW (k := 225) rfl (by decide) rfl) rfl rfl hl.1 rfl (lv_room (Nat.le_of_ble_eq_true rfl)) dX10_restore_32 ⟨Nat.le_of_ble_eq_true rfl, Nat.le_of_ble_eq_true rfl⟩) hW (fun ad_2 H locs had2 hW => ?_)
        rw [← had2.1 224 rfl] at hl
        have had := had2
        refine lv_aload_n hx hb dX10_restore_35 rfl (lv_at hl 0 rfl) ?_
        refine g10_0 hx hb hts hi10 hown hK hW (k := 224) rfl (hts _ (wm 5 rfl)) dX10_restore_36 ?_
        refine lv_aload_n hx hb dX10_restore_39 rfl (lv_at hl 0 rfl) ?_
        refine g10_2 hx hb hts hi10 hown hK hW (k := 224) rfl (hts _ (wm 6 rfl)) dX10_restore_40 ?_
        refine lv_iload_n hx hb dX10_restore_43 rfl (lv_at hl 1 rfl) ?_
        obtain ⟨hn44, hr⟩ := chk_e hr
        refine xaald hx hb hK hW (k := 227) (t := 53) rfl (by decide) (by decide) rfl (t0 := 5) rfl hn44 dX10_restore_44 ?_
        obtain ⟨M_3, hc45, hr⟩ := ob1_e hr
        refine xk_v (va_runV (As := [.ref (ad_2 (rid 53 227 (ix x1)))]) (rest := []) ⟨hx, hb, hml, hown, hts⟩ (c_X8_copyFrom l D cA ad_2 M_1 0 (rid 53 227 (ix x1)) (rfl : KS true 0 = 8) (ks_53 (k := 227) rfl hn44) hc45) (cwV 1 hts gX10_restore_X8_copyFrom rfl rfl rfl (by decide +kernel) ⟨Nat.le_of_ble_eq_true rfl, Nat.le_of_ble_eq_true rfl⟩) (xpreV hK hW (k := 0) rfl (by decide) rfl) rfl rfl hl.1 rfl (lv_room (Nat.le_of_ble_eq_true rfl)) dX10_restore_45 ⟨Nat.le_of_ble_eq_true rfl, Nat.le_of_ble_eq_true rfl⟩) hW (fun H locs hW => ?_)
        refine lv_aload_n hx hb dX10_restore_48 rfl (lv_at hl 0 rfl) ?_
        refine g10_0 hx hb hts hi10 hown hK hW (k := 224) rfl (hts _ (wm 5 rfl)) dX10_restore_49 ?_
        refine g8_6 hx hb hts hi8 hown hK hW (k := 0) rfl (hts _ (wm 7 rfl)) dX10_restore_52 ?_
        obtain ⟨e1, e2⟩ := Prod.mk.inj (Option.some.inj hr)
        rw [← e1, ← e2]
        exact xiret hx hb hr0 hlocks hW had dX10_restore_55
      · have hr := br_p c1 hr
        refine lv_ldc (v := (-2000000003 : Int32)) hx hb hown (hts _ (wm 3 rfl)) dX10_restore_21 ?_
        obtain ⟨e1, e2⟩ := Prod.mk.inj (Option.some.inj hr)
        rw [← e1, ← e2]
        exact xiret hx hb hr0 hlocks hW adR_rf dX10_restore_23
    · have hr := br_n c1 hr
      refine lv_ldc (v := (-2000000001 : Int32)) hx hb hown (hts _ (wm 1 rfl)) dX10_restore_9 ?_
      obtain ⟨e1, e2⟩ := Prod.mk.inj (Option.some.inj hr)
      rw [← e1, ← e2]
      exact xiret hx hb hr0 hlocks hW adR_rf dX10_restore_11

set_option maxHeartbeats 4000000 in
set_option maxRecDepth 100000 in
theorem c_X10_path (l : Launch) (D : va_G) (cA : Nat → ClassId) (ad : Nat → Nat) (M : Mm) (x1 : Int32) (x2 : Int32) {r : Int32} (hr : f_X10_path x1 x2 M = some r) : Met l yX10_path wsX10_path ({ frames := 2, cells := 0, slots := 0, locals := 41 }) (PcX D true cA ad M [.ref (ad 224), .int x1, .int x2]) (QiX false D true cA ad r M) 0 0 (AX true ad) := by
  refine Met.ofW (cc := cX10_path) (maxL := 4) (ret := (some .int)) (by decide) rfl ?_
  intro p e s m args below meth c s₁ B hml hv
  obtain ⟨hav, hP0, hK⟩ := hv
  have hx := B.exec
  have hb := B.bytes
  have hr0 := B.returns
  have hts := atoms_spec (ws := wsX10_path) B.pre
  have hown : s.vm.findClass RX10 = some m.cls := findClass_of_methodNamed B.named
  have hlocks := B.notSynchronized
  have hW := xstart hP0
  have hi10 : ∀ w ∈ wsX100, w ∈ wsX10_path := fun w h => List.mem_cons_of_mem _ (List.mem_append_left _ (List.mem_append_left _ (List.mem_append_right _ h)))
  have hl := lv_entry ([.ref (ad 224), .int x1, .int x2]) (n := 4) (Nat.le_of_ble_eq_true rfl)
  have hef := lg_entry_eq m ([.ref (ad 224), .int x1, .int x2]) 4
  rw [← hav] at hef
  rw [hef]
  clear hef
  generalize (lg_sl ([.ref (ad 224), .int x1, .int x2]) ++ List.replicate (4 - (lg_sl ([.ref (ad 224), .int x1, .int x2])).length) Slot.unset).toArray = ls at hl ⊢
  have hl : lv_has ls 4 [(0, .ref (ad 224)), (1, .int x1), (2, .int x2)] := hl
  clear hP0
  unfold f_X10_path at hr
  refine lv_aload_n hx hb dX10_path_0 rfl (lv_at hl 0 rfl) ?_
  refine g10_0 hx hb hts hi10 hown hK hW (k := 224) rfl (hts _ (wm 1 rfl)) dX10_path_1 ?_
  refine lv_iload_n hx hb dX10_path_4 rfl (lv_at hl 1 rfl) ?_
  obtain ⟨r_1, hc5, hr⟩ := ob1_e hr
  refine xk_q (va_runV (As := [.int x1]) (rest := []) ⟨hx, hb, hml, hown, hts⟩ (c_X8_pathAt l D cA ad M x1 hc5) (cwV 1 hts gX10_path_X8_pathAt rfl rfl rfl (by decide +kernel) ⟨Nat.le_of_ble_eq_true rfl, Nat.le_of_ble_eq_true rfl⟩) (xpreV hK hW (k := 0) rfl (by decide) rfl) rfl rfl hl.1 rfl (lv_room (Nat.le_of_ble_eq_true rfl)) dX10_path_5 ⟨Nat.le_of_ble_eq_true rfl, Nat.le_of_ble_eq_true rfl⟩) hW (fun H locs hW => ?_)
  cases r_1 with
  | none =>
    have hr : _ = _ := hr
    simp only [onl] at hr
    refine lv_astore_nN (lv' := [(3, .null), (0, .ref (ad 224)), (1, .int x1), (2, .int x2)]) hx hb dX10_path_8 rfl hl (by decide) rfl (fun ls hl => ?_)
    refine lv_aload_nN hx hb dX10_path_9 rfl (lv_at hl 0 rfl) ?_
    refine lv_ifnonnullN hx hb dX10_path_10 ?_
    refine lv_ldc (v := (-2000000001 : Int32)) hx hb hown (hts _ (wm 2 rfl)) dX10_path_13 ?_
    rw [← Option.some.inj hr]
    exact xiret hx hb hr0 hlocks hW adR_rf dX10_path_15
  | some k_2 =>
    simp only [onl] at hr
    obtain ⟨hk5, hr⟩ := chk_e hr
    have hk5 := of_decide_eq_true hk5
    refine lv_astore_n (lv' := [(3, .ref (ad k_2)), (0, .ref (ad 224)), (1, .int x1), (2, .int x2)]) hx hb dX10_path_8 rfl hl (by decide) rfl (fun ls hl => ?_)
    refine lv_aload_n hx hb dX10_path_9 rfl (lv_at hl 0 rfl) ?_
    refine lv_ifnonnull (tgt := 16) hx hb dX10_path_10 (by decide) ?_
    refine lv_aload_n hx hb dX10_path_16 rfl (lv_at hl 0 rfl) ?_
    refine lv_iload_n hx hb dX10_path_17 rfl (lv_at hl 3 rfl) ?_
    obtain ⟨r_3, hc18, hr⟩ := ob1_e hr
    refine xk_i (va_runV (As := [.int x2]) (rest := []) ⟨hx, hb, hml, hown, hts⟩ (c_X3_property l D cA ad M k_2 x2 hk5 hc18) (cwV 1 hts gX10_path_X3_property rfl rfl rfl (by decide +kernel) ⟨Nat.le_of_ble_eq_true rfl, Nat.le_of_ble_eq_true rfl⟩) (xpreV hK hW (k := k_2) hk5 (by decide) rfl) rfl rfl hl.1 rfl (lv_room (Nat.le_of_ble_eq_true rfl)) dX10_path_18 ⟨Nat.le_of_ble_eq_true rfl, Nat.le_of_ble_eq_true rfl⟩) hW (fun H locs hW => ?_)
    rw [← Option.some.inj hr]
    exact xiret hx hb hr0 hlocks hW adR_rf dX10_path_21

set_option maxHeartbeats 4000000 in
set_option maxRecDepth 100000 in
theorem c_X10_told (l : Launch) (D : va_G) (cA : Nat → ClassId) (ad : Nat → Nat) (M : Mm) (x1 : Int32) (x2 : Int32) {r : Int32} (hr : f_X10_told x1 x2 M = some r) : Met l yX10_told wsX10_told ({ frames := 1, cells := 0, slots := 0, locals := 22 }) (PcX D true cA ad M [.ref (ad 224), .int x1, .int x2]) (QiX false D true cA ad r M) 0 0 (AX true ad) := by
  refine Met.ofW (cc := cX10_told) (maxL := 5) (ret := (some .int)) (by decide) rfl ?_
  intro p e s m args below meth c s₁ B hml hv
  obtain ⟨hav, hP0, hK⟩ := hv
  have hx := B.exec
  have hb := B.bytes
  have hr0 := B.returns
  have hts := atoms_spec (ws := wsX10_told) B.pre
  have hown : s.vm.findClass RX10 = some m.cls := findClass_of_methodNamed B.named
  have hlocks := B.notSynchronized
  have hW := xstart hP0
  have hi3 : ∀ w ∈ wsX30, w ∈ wsX10_told := fun w h => List.mem_cons_of_mem _ (List.mem_append_left _ (List.mem_append_left _ (List.mem_append_right _ h)))
  have hi7 : ∀ w ∈ wsX70, w ∈ wsX10_told := fun w h => List.mem_cons_of_mem _ (List.mem_append_left _ (List.mem_append_right _ h))
  have hi10 : ∀ w ∈ wsX100, w ∈ wsX10_told := fun w h => List.mem_cons_of_mem _ (List.mem_append_left _ (List.mem_append_left _ (List.mem_append_left _ (List.mem_append_right _ h))))
  have hl := lv_entry ([.ref (ad 224), .int x1, .int x2]) (n := 5) (Nat.le_of_ble_eq_true rfl)
  have hef := lg_entry_eq m ([.ref (ad 224), .int x1, .int x2]) 5
  rw [← hav] at hef
  rw [hef]
  clear hef
  generalize (lg_sl ([.ref (ad 224), .int x1, .int x2]) ++ List.replicate (5 - (lg_sl ([.ref (ad 224), .int x1, .int x2])).length) Slot.unset).toArray = ls at hl ⊢
  have hl : lv_has ls 5 [(0, .ref (ad 224)), (1, .int x1), (2, .int x2)] := hl
  clear hP0
  unfold f_X10_told at hr
  refine lv_aload_n hx hb dX10_told_0 rfl (lv_at hl 0 rfl) ?_
  refine g10_0 hx hb hts hi10 hown hK hW (k := 224) rfl (hts _ (wm 1 rfl)) dX10_told_1 ?_
  refine lv_iload_n hx hb dX10_told_4 rfl (lv_at hl 1 rfl) ?_
  obtain ⟨r_1, hc5, hr⟩ := ob1_e hr
  refine xk_q (va_runV (As := [.int x1]) (rest := []) ⟨hx, hb, hml, hown, hts⟩ (c_X8_pathAt l D cA ad M x1 hc5) (cwV 1 hts gX10_told_X8_pathAt rfl rfl rfl (by decide +kernel) ⟨Nat.le_of_ble_eq_true rfl, Nat.le_of_ble_eq_true rfl⟩) (xpreV hK hW (k := 0) rfl (by decide) rfl) rfl rfl hl.1 rfl (lv_room (Nat.le_of_ble_eq_true rfl)) dX10_told_5 ⟨Nat.le_of_ble_eq_true rfl, Nat.le_of_ble_eq_true rfl⟩) hW (fun H locs hW => ?_)
  cases r_1 with
  | none =>
    have hr : _ = _ := hr
    simp only [onl] at hr
    refine lv_astore_nN (lv' := [(3, .null), (0, .ref (ad 224)), (1, .int x1), (2, .int x2)]) hx hb dX10_told_8 rfl hl (by decide) rfl (fun ls hl => ?_)
    refine lv_aload_nN hx hb dX10_told_9 rfl (lv_at hl 0 rfl) ?_
    refine lv_ifnonnullN hx hb dX10_told_10 ?_
    refine lv_ldc (v := (-2000000001 : Int32)) hx hb hown (hts _ (wm 2 rfl)) dX10_told_13 ?_
    rw [← Option.some.inj hr]
    exact xiret hx hb hr0 hlocks hW adR_rf dX10_told_15
  | some k_2 =>
    simp only [onl] at hr
    obtain ⟨hk5, hr⟩ := chk_e hr
    have hk5 := of_decide_eq_true hk5
    refine lv_astore_n (lv' := [(3, .ref (ad k_2)), (0, .ref (ad 224)), (1, .int x1), (2, .int x2)]) hx hb dX10_told_8 rfl hl (by decide) rfl (fun ls hl => ?_)
    refine lv_aload_n hx hb dX10_told_9 rfl (lv_at hl 0 rfl) ?_
    refine lv_ifnonnull (tgt := 16) hx hb dX10_told_10 (by decide) ?_
    refine lv_iload_n hx hb dX10_told_16 rfl (lv_at hl 3 rfl) ?_
    refine lv_iconst (v := (0 : Int32)) hx hb dX10_told_17 (by decide) ?_
    refine lv_iconst (v := (2 : Int32)) hx hb dX10_told_18 (by decide) ?_
    obtain ⟨r_3, hc19, hr⟩ := ob1_e hr
    refine xk_i (va_runS (As := [.int x2, .int (0 : Int32), .int (2 : Int32)]) (rest := []) ⟨hx, hb, hml, hown, hts⟩ (c_X10_isWithin l D cA ad M x2 (0 : Int32) (2 : Int32) hc19) (va_cwS 3 hts gX10_told_X10_isWithin rfl rfl rfl (by decide +kernel) ⟨Nat.le_of_ble_eq_true rfl, Nat.le_of_ble_eq_true rfl⟩) (xpreS hK hW) rfl rfl hl.1 rfl (lv_room (Nat.le_of_ble_eq_true rfl)) dX10_told_19 ⟨Nat.le_of_ble_eq_true rfl, Nat.le_of_ble_eq_true rfl⟩) hW (fun H locs hW => ?_)
    refine lv_if_ne (tgt := 28) hx hb dX10_told_22 (by decide) (fun c1 => ?_) (fun c1 => ?_)
    · have hr := br_n c1 hr
      refine lv_aload_n hx hb dX10_told_28 rfl (lv_at hl 0 rfl) ?_
      refine g3_15 hx hb hts hi3 hown hK hW (k := k_2) hk5 (hts _ (wm 4 rfl)) dX10_told_29 ?_
      refine lv_astore (lv' := [(4, .ref (ad (k_2 + 1))), (3, .ref (ad k_2)), (0, .ref (ad 224)), (1, .int x1), (2, .int x2)]) hx hb dX10_told_32 hl (by decide) rfl (fun ls hl => ?_)
      refine lv_aload hx hb dX10_told_34 (lv_at hl 0 rfl) ?_
      refine g7_0 hx hb hts hi7 hown hK hW (k := (k_2 + 1)) (ks_3s hk5) (hts _ (wm 5 rfl)) dX10_told_36 ?_
      refine lv_if_ne (tgt := 45) hx hb dX10_told_39 (by decide) (fun c1 => ?_) (fun c1 => ?_)
      · have hr := br_n c1 hr
        refine lv_iload_n hx hb dX10_told_45 rfl (lv_at hl 4 rfl) ?_
        refine lv_if_ne (tgt := 57) hx hb dX10_told_46 (by decide) (fun c1 => ?_) (fun c1 => ?_)
        · have hr := br_n c1 hr
          refine lv_iload_n hx hb dX10_told_57 rfl (lv_at hl 4 rfl) ?_
          refine lv_iconst (v := (1 : Int32)) hx hb dX10_told_58 (by decide) ?_
          refine lv_icmp_ne (tgt := 70) hx hb dX10_told_59 (by decide) (fun c1 => ?_) (fun c1 => ?_)
          · have hr := br_n c1 hr
            refine lv_aload hx hb dX10_told_70 (lv_at hl 0 rfl) ?_
            refine g7_3 hx hb hts hi7 hown hK hW (k := (k_2 + 1)) (ks_3s hk5) (hts _ (wm 9 rfl)) dX10_told_72 ?_
            rw [← Option.some.inj hr]
            exact xiret hx hb hr0 hlocks hW adR_rf dX10_told_75
          · have hr := br_p c1 hr
            refine lv_aload hx hb dX10_told_62 (lv_at hl 0 rfl) ?_
            refine g7_2 hx hb hts hi7 hown hK hW (k := (k_2 + 1)) (ks_3s hk5) (hts _ (wm 8 rfl)) dX10_told_64 ?_
            refine lv_goto (tgt := 75) hx hb dX10_told_67 (by decide) ?_
            rw [← Option.some.inj hr]
            exact xiret hx hb hr0 hlocks hW adR_rf dX10_told_75
        · have hr := br_p c1 hr
          refine lv_aload hx hb dX10_told_49 (lv_at hl 0 rfl) ?_
          refine g7_1 hx hb hts hi7 hown hK hW (k := (k_2 + 1)) (ks_3s hk5) (hts _ (wm 7 rfl)) dX10_told_51 ?_
          refine lv_goto (tgt := 75) hx hb dX10_told_54 (by decide) ?_
          rw [← Option.some.inj hr]
          exact xiret hx hb hr0 hlocks hW adR_rf dX10_told_75
      · have hr := br_p c1 hr
        refine lv_ldc (v := (-2000000005 : Int32)) hx hb hown (hts _ (wm 6 rfl)) dX10_told_42 ?_
        rw [← Option.some.inj hr]
        exact xiret hx hb hr0 hlocks hW adR_rf dX10_told_44
    · have hr := br_p c1 hr
      refine lv_ldc (v := (-2000000002 : Int32)) hx hb hown (hts _ (wm 3 rfl)) dX10_told_25 ?_
      rw [← Option.some.inj hr]
      exact xiret hx hb hr0 hlocks hW adR_rf dX10_told_27

set_option maxHeartbeats 4000000 in
set_option maxRecDepth 100000 in
theorem c_X10_sound (l : Launch) (D : va_G) (cA : Nat → ClassId) (ad : Nat → Nat) (M : Mm) (x1 : Int32) {r : Int64} (hr : f_X10_sound x1 M = some r) : Met l yX10_sound wsX10_sound ({ frames := 2, cells := 0, slots := 0, locals := 47 }) (PcX D true cA ad M [.ref (ad 224), .int x1]) (QlX false D true cA ad r M) 0 0 (AX true ad) := by
  refine Met.ofW (cc := cX10_sound) (maxL := 3) (ret := (some .long)) (by decide) rfl ?_
  intro p e s m args below meth c s₁ B hml hv
  obtain ⟨hav, hP0, hK⟩ := hv
  have hx := B.exec
  have hb := B.bytes
  have hr0 := B.returns
  have hts := atoms_spec (ws := wsX10_sound) B.pre
  have hown : s.vm.findClass RX10 = some m.cls := findClass_of_methodNamed B.named
  have hlocks := B.notSynchronized
  have hW := xstart hP0
  have hi3 : ∀ w ∈ wsX30, w ∈ wsX10_sound := fun w h => List.mem_cons_of_mem _ (List.mem_append_left _ (List.mem_append_right _ h))
  have hi10 : ∀ w ∈ wsX100, w ∈ wsX10_sound := fun w h => List.mem_cons_of_mem _ (List.mem_append_left _ (List.mem_append_left _ (List.mem_append_right _ h)))
  have hl := lv_entry ([.ref (ad 224), .int x1]) (n := 3) (Nat.le_of_ble_eq_true rfl)
  have hef := lg_entry_eq m ([.ref (ad 224), .int x1]) 3
  rw [← hav] at hef
  rw [hef]
  clear hef
  generalize (lg_sl ([.ref (ad 224), .int x1]) ++ List.replicate (3 - (lg_sl ([.ref (ad 224), .int x1])).length) Slot.unset).toArray = ls at hl ⊢
  have hl : lv_has ls 3 [(0, .ref (ad 224)), (1, .int x1)] := hl
  clear hP0
  unfold f_X10_sound at hr
  refine lv_aload_n hx hb dX10_sound_0 rfl (lv_at hl 0 rfl) ?_
  refine g10_0 hx hb hts hi10 hown hK hW (k := 224) rfl (hts _ (wm 1 rfl)) dX10_sound_1 ?_
  refine lv_iload_n hx hb dX10_sound_4 rfl (lv_at hl 1 rfl) ?_
  obtain ⟨r_1, hc5, hr⟩ := ob1_e hr
  refine xk_q (va_runV (As := [.int x1]) (rest := []) ⟨hx, hb, hml, hown, hts⟩ (c_X8_pathAt l D cA ad M x1 hc5) (cwV 1 hts gX10_sound_X8_pathAt rfl rfl rfl (by decide +kernel) ⟨Nat.le_of_ble_eq_true rfl, Nat.le_of_ble_eq_true rfl⟩) (xpreV hK hW (k := 0) rfl (by decide) rfl) rfl rfl hl.1 rfl (lv_room (Nat.le_of_ble_eq_true rfl)) dX10_sound_5 ⟨Nat.le_of_ble_eq_true rfl, Nat.le_of_ble_eq_true rfl⟩) hW (fun H locs hW => ?_)
  cases r_1 with
  | none =>
    have hr : _ = _ := hr
    simp only [onl] at hr
    refine lv_astore_nN (lv' := [(2, .null), (0, .ref (ad 224)), (1, .int x1)]) hx hb dX10_sound_8 rfl hl (by decide) rfl (fun ls hl => ?_)
    refine lv_aload_nN hx hb dX10_sound_9 rfl (lv_at hl 0 rfl) ?_
    refine lv_ifnonnullN hx hb dX10_sound_10 ?_
    refine lv_ldc2 (v := (-2000000001 : Int64)) hx hb hown (hts _ (wm 2 rfl)) dX10_sound_13 ?_
    rw [← Option.some.inj hr]
    exact xlret hx hb hr0 hlocks hW adR_rf dX10_sound_16
  | some k_2 =>
    simp only [onl] at hr
    obtain ⟨hk5, hr⟩ := chk_e hr
    have hk5 := of_decide_eq_true hk5
    refine lv_astore_n (lv' := [(2, .ref (ad k_2)), (0, .ref (ad 224)), (1, .int x1)]) hx hb dX10_sound_8 rfl hl (by decide) rfl (fun ls hl => ?_)
    refine lv_aload_n hx hb dX10_sound_9 rfl (lv_at hl 0 rfl) ?_
    refine lv_ifnonnull (tgt := 17) hx hb dX10_sound_10 (by decide) ?_
    refine lv_aload_n hx hb dX10_sound_17 rfl (lv_at hl 0 rfl) ?_
    refine g3_5 hx hb hts hi3 hown hK hW (k := k_2) hk5 (hts _ (wm 3 rfl)) dX10_sound_18 ?_
    refine lv_if_eq (tgt := 31) hx hb dX10_sound_21 (by decide) (fun c1 => ?_) (fun c1 => ?_)
    · have hr := br_p c1 hr
      refine lv_ldc2 (v := (-2000000005 : Int64)) hx hb hown (hts _ (wm 4 rfl)) dX10_sound_31 ?_
      rw [← Option.some.inj hr]
      exact xlret hx hb hr0 hlocks hW adR_rf dX10_sound_34
    · have hr := br_n c1 hr
      refine lv_aload_n hx hb dX10_sound_24 rfl (lv_at hl 0 rfl) ?_
      obtain ⟨r_3, hc25, hr⟩ := ob1_e hr
      refine xk_l (va_runV (As := []) (rest := []) ⟨hx, hb, hml, hown, hts⟩ (c_X3_speedOfSound l D cA ad M k_2 hk5 hc25) (cwV 0 hts gX10_sound_X3_speedOfSound rfl rfl rfl (by decide +kernel) ⟨Nat.le_of_ble_eq_true rfl, Nat.le_of_ble_eq_true rfl⟩) (xpreV hK hW (k := k_2) hk5 (by decide) rfl) rfl rfl hl.1 rfl (lv_room (Nat.le_of_ble_eq_true rfl)) dX10_sound_25 ⟨Nat.le_of_ble_eq_true rfl, Nat.le_of_ble_eq_true rfl⟩) hW (fun H locs hW => ?_)
      refine lv_goto (tgt := 34) hx hb dX10_sound_28 (by decide) ?_
      rw [← Option.some.inj hr]
      exact xlret hx hb hr0 hlocks hW adR_rf dX10_sound_34

set_option maxHeartbeats 4000000 in
set_option maxRecDepth 100000 in
theorem c_X10_factor (l : Launch) (D : va_G) (cA : Nat → ClassId) (ad : Nat → Nat) (M : Mm) (x1 : Int32) {r : Int32} (hr : f_X10_factor x1 M = some r) : Met l yX10_factor wsX10_factor ({ frames := 2, cells := 0, slots := 0, locals := 58 }) (PcX D true cA ad M [.ref (ad 224), .int x1]) (QiX false D true cA ad r M) 0 0 (AX true ad) := by
  refine Met.ofW (cc := cX10_factor) (maxL := 2) (ret := (some .int)) (by decide) rfl ?_
  intro p e s m args below meth c s₁ B hml hv
  obtain ⟨hav, hP0, hK⟩ := hv
  have hx := B.exec
  have hb := B.bytes
  have hr0 := B.returns
  have hts := atoms_spec (ws := wsX10_factor) B.pre
  have hown : s.vm.findClass RX10 = some m.cls := findClass_of_methodNamed B.named
  have hlocks := B.notSynchronized
  have hW := xstart hP0
  have hi8 : ∀ w ∈ wsX80, w ∈ wsX10_factor := fun w h => List.mem_cons_of_mem _ (List.mem_append_left _ (List.mem_append_right _ h))
  have hi10 : ∀ w ∈ wsX100, w ∈ wsX10_factor := fun w h => List.mem_cons_of_mem _ (List.mem_append_left _ (List.mem_append_left _ (List.mem_append_right _ h)))
  have hl := lv_entry ([.ref (ad 224), .int x1]) (n := 2) (Nat.le_of_ble_eq_true rfl)
  have hef := lg_entry_eq m ([.ref (ad 224), .int x1]) 2
  rw [← hav] at hef
  rw [hef]
  clear hef
  generalize (lg_sl ([.ref (ad 224), .int x1]) ++ List.replicate (2 - (lg_sl ([.ref (ad 224), .int x1])).length) Slot.unset).toArray = ls at hl ⊢
  have hl : lv_has ls 2 [(0, .ref (ad 224)), (1, .int x1)] := hl
  clear hP0
  unfold f_X10_factor at hr
  refine lv_iload_n hx hb dX10_factor_0 rfl (lv_at hl 1 rfl) ?_
  refine lv_ldc (v := (-100000 : Int32)) hx hb hown (hts _ (wm 1 rfl)) dX10_factor_1 ?_
  refine lv_ldc (v := (100000 : Int32)) hx hb hown (hts _ (wm 2 rfl)) dX10_factor_3 ?_
  obtain ⟨r_1, hc5, hr⟩ := ob1_e hr
  refine xk_i (va_runS (As := [.int x1, .int (-100000 : Int32), .int (100000 : Int32)]) (rest := []) ⟨hx, hb, hml, hown, hts⟩ (c_X10_isWithin l D cA ad M x1 (-100000 : Int32) (100000 : Int32) hc5) (va_cwS 3 hts gX10_factor_X10_isWithin rfl rfl rfl (by decide +kernel) ⟨Nat.le_of_ble_eq_true rfl, Nat.le_of_ble_eq_true rfl⟩) (xpreS hK hW) rfl rfl hl.1 rfl (lv_room (Nat.le_of_ble_eq_true rfl)) dX10_factor_5 ⟨Nat.le_of_ble_eq_true rfl, Nat.le_of_ble_eq_true rfl⟩) hW (fun H locs hW => ?_)
  refine lv_if_ne (tgt := 14) hx hb dX10_factor_8 (by decide) (fun c1 => ?_) (fun c1 => ?_)
  · have hr := br_n c1 hr
    refine lv_aload_n hx hb dX10_factor_14 rfl (lv_at hl 0 rfl) ?_
    refine g10_0 hx hb hts hi10 hown hK hW (k := 224) rfl (hts _ (wm 4 rfl)) dX10_factor_15 ?_
    refine g8_2 hx hb hts hi8 hown hK hW (k := 0) rfl (hts _ (wm 5 rfl)) dX10_factor_18 ?_
    refine lv_iload_n hx hb dX10_factor_21 rfl (lv_at hl 1 rfl) ?_
    obtain ⟨r_2, hc22, hr⟩ := ob1_e hr
    refine xk_i (va_runV (As := [.int x1]) (rest := []) ⟨hx, hb, hml, hown, hts⟩ (c_X4_factorFor l D cA ad M x1 hc22) (cwV 1 hts gX10_factor_X4_factorFor rfl rfl rfl (by decide +kernel) ⟨Nat.le_of_ble_eq_true rfl, Nat.le_of_ble_eq_true rfl⟩) (xpreV hK hW (k := 10) rfl (by decide) rfl) rfl rfl hl.1 rfl (lv_room (Nat.le_of_ble_eq_true rfl)) dX10_factor_22 ⟨Nat.le_of_ble_eq_true rfl, Nat.le_of_ble_eq_true rfl⟩) hW (fun H locs hW => ?_)
    rw [← Option.some.inj hr]
    exact xiret hx hb hr0 hlocks hW adR_rf dX10_factor_25
  · have hr := br_p c1 hr
    refine lv_ldc (v := (-2000000002 : Int32)) hx hb hown (hts _ (wm 3 rfl)) dX10_factor_11 ?_
    rw [← Option.some.inj hr]
    exact xiret hx hb hr0 hlocks hW adR_rf dX10_factor_13

set_option maxHeartbeats 4000000 in
set_option maxRecDepth 100000 in
theorem c_X10_round (l : Launch) (D : va_G) (cA : Nat → ClassId) (ad : Nat → Nat) (M : Mm) (x1 : Int32) (x2 : Int32) {r : Int32} (hr : f_X10_round x1 x2 M = some r) : Met l yX10_round wsX10_round ({ frames := 1, cells := 0, slots := 0, locals := 21 }) (PcX D true cA ad M [.ref (ad 224), .int x1, .int x2]) (QiX false D true cA ad r M) 0 0 (AX true ad) := by
  refine Met.ofW (cc := cX10_round) (maxL := 4) (ret := (some .int)) (by decide) rfl ?_
  intro p e s m args below meth c s₁ B hml hv
  obtain ⟨hav, hP0, hK⟩ := hv
  have hx := B.exec
  have hb := B.bytes
  have hr0 := B.returns
  have hts := atoms_spec (ws := wsX10_round) B.pre
  have hown : s.vm.findClass RX10 = some m.cls := findClass_of_methodNamed B.named
  have hlocks := B.notSynchronized
  have hW := xstart hP0
  have hi5 : ∀ w ∈ wsX50, w ∈ wsX10_round := fun w h => List.mem_cons_of_mem _ (List.mem_append_left _ (List.mem_append_right _ h))
  have hi8 : ∀ w ∈ wsX80, w ∈ wsX10_round := fun w h => List.mem_cons_of_mem _ (List.mem_append_left _ (List.mem_append_left _ (List.mem_append_right _ h)))
  have hi10 : ∀ w ∈ wsX100, w ∈ wsX10_round := fun w h => List.mem_cons_of_mem _ (List.mem_append_left _ (List.mem_append_left _ (List.mem_append_left _ (List.mem_append_right _ h))))
  have hl := lv_entry ([.ref (ad 224), .int x1, .int x2]) (n := 4) (Nat.le_of_ble_eq_true rfl)
  have hef := lg_entry_eq m ([.ref (ad 224), .int x1, .int x2]) 4
  rw [← hav] at hef
  rw [hef]
  clear hef
  generalize (lg_sl ([.ref (ad 224), .int x1, .int x2]) ++ List.replicate (4 - (lg_sl ([.ref (ad 224), .int x1, .int x2])).length) Slot.unset).toArray = ls at hl ⊢
  have hl : lv_has ls 4 [(0, .ref (ad 224)), (1, .int x1), (2, .int x2)] := hl
  clear hP0
  unfold f_X10_round at hr
  refine lv_aload_n hx hb dX10_round_0 rfl (lv_at hl 0 rfl) ?_
  refine g10_0 hx hb hts hi10 hown hK hW (k := 224) rfl (hts _ (wm 1 rfl)) dX10_round_1 ?_
  refine g8_5 hx hb hts hi8 hown hK hW (k := 0) rfl (hts _ (wm 2 rfl)) dX10_round_4 ?_
  refine lv_iload_n hx hb dX10_round_7 rfl (lv_at hl 1 rfl) ?_
  obtain ⟨r_1, hc8, hr⟩ := ob1_e hr
  refine xk_q (va_runV (As := [.int x1]) (rest := []) ⟨hx, hb, hml, hown, hts⟩ (c_X6_latest l D cA ad M x1 hc8) (cwV 1 hts gX10_round_X6_latest rfl rfl rfl (by decide +kernel) ⟨Nat.le_of_ble_eq_true rfl, Nat.le_of_ble_eq_true rfl⟩) (xpreV hK hW (k := 14) rfl (by decide) rfl) rfl rfl hl.1 rfl (lv_room (Nat.le_of_ble_eq_true rfl)) dX10_round_8 ⟨Nat.le_of_ble_eq_true rfl, Nat.le_of_ble_eq_true rfl⟩) hW (fun H locs hW => ?_)
  cases r_1 with
  | none =>
    have hr : _ = _ := hr
    simp only [onl] at hr
    refine lv_astore_nN (lv' := [(3, .null), (0, .ref (ad 224)), (1, .int x1), (2, .int x2)]) hx hb dX10_round_11 rfl hl (by decide) rfl (fun ls hl => ?_)
    refine lv_aload_nN hx hb dX10_round_12 rfl (lv_at hl 0 rfl) ?_
    refine lv_ifnonnullN hx hb dX10_round_13 ?_
    refine lv_ldc (v := (-2000000001 : Int32)) hx hb hown (hts _ (wm 3 rfl)) dX10_round_16 ?_
    rw [← Option.some.inj hr]
    exact xiret hx hb hr0 hlocks hW adR_rf dX10_round_18
  | some k_2 =>
    simp only [onl] at hr
    obtain ⟨hk8, hr⟩ := chk_e hr
    have hk8 := of_decide_eq_true hk8
    refine lv_astore_n (lv' := [(3, .ref (ad k_2)), (0, .ref (ad 224)), (1, .int x1), (2, .int x2)]) hx hb dX10_round_11 rfl hl (by decide) rfl (fun ls hl => ?_)
    refine lv_aload_n hx hb dX10_round_12 rfl (lv_at hl 0 rfl) ?_
    refine lv_ifnonnull (tgt := 19) hx hb dX10_round_13 (by decide) ?_
    refine lv_iload_n hx hb dX10_round_19 rfl (lv_at hl 3 rfl) ?_
    by_cases c20_0 : x2 = (0 : Int32)
    · have hr := br_p c20_0 hr
      refine lv_tableIn (tgt := 60) hx hb dX10_round_20 (by rw [c20_0]; decide) (by rw [c20_0]; decide) (off := 40) (by rw [c20_0]; decide) (by decide) ?_
      refine lv_aload_n hx hb dX10_round_60 rfl (lv_at hl 0 rfl) ?_
      refine g5_0 hx hb hts hi5 hown hK hW (k := k_2) hk8 (hts _ (wm 4 rfl)) dX10_round_61 ?_
      rw [← Option.some.inj hr]
      exact xiret hx hb hr0 hlocks hW adR_rf dX10_round_64
    · have hr := br_n c20_0 hr
      by_cases c20_1 : x2 = (1 : Int32)
      · have hr := br_p c20_1 hr
        refine lv_tableIn (tgt := 65) hx hb dX10_round_20 (by rw [c20_1]; decide) (by rw [c20_1]; decide) (off := 45) (by rw [c20_1]; decide) (by decide) ?_
        refine lv_aload_n hx hb dX10_round_65 rfl (lv_at hl 0 rfl) ?_
        refine g5_1 hx hb hts hi5 hown hK hW (k := k_2) hk8 (hts _ (wm 5 rfl)) dX10_round_66 ?_
        rw [← Option.some.inj hr]
        exact xiret hx hb hr0 hlocks hW adR_rf dX10_round_69
      · have hr := br_n c20_1 hr
        by_cases c20_2 : x2 = (2 : Int32)
        · have hr := br_p c20_2 hr
          refine lv_tableIn (tgt := 70) hx hb dX10_round_20 (by rw [c20_2]; decide) (by rw [c20_2]; decide) (off := 50) (by rw [c20_2]; decide) (by decide) ?_
          refine lv_aload_n hx hb dX10_round_70 rfl (lv_at hl 0 rfl) ?_
          refine g5_2 hx hb hts hi5 hown hK hW (k := k_2) hk8 (hts _ (wm 6 rfl)) dX10_round_71 ?_
          rw [← Option.some.inj hr]
          exact xiret hx hb hr0 hlocks hW adR_rf dX10_round_74
        · have hr := br_n c20_2 hr
          by_cases c20_3 : x2 = (3 : Int32)
          · have hr := br_p c20_3 hr
            refine lv_tableIn (tgt := 75) hx hb dX10_round_20 (by rw [c20_3]; decide) (by rw [c20_3]; decide) (off := 55) (by rw [c20_3]; decide) (by decide) ?_
            refine lv_aload_n hx hb dX10_round_75 rfl (lv_at hl 0 rfl) ?_
            refine g5_3 hx hb hts hi5 hown hK hW (k := k_2) hk8 (hts _ (wm 7 rfl)) dX10_round_76 ?_
            rw [← Option.some.inj hr]
            exact xiret hx hb hr0 hlocks hW adR_rf dX10_round_79
          · have hr := br_n c20_3 hr
            by_cases c20_4 : x2 = (4 : Int32)
            · have hr := br_p c20_4 hr
              refine lv_tableIn (tgt := 80) hx hb dX10_round_20 (by rw [c20_4]; decide) (by rw [c20_4]; decide) (off := 60) (by rw [c20_4]; decide) (by decide) ?_
              refine lv_aload_n hx hb dX10_round_80 rfl (lv_at hl 0 rfl) ?_
              refine g5_4 hx hb hts hi5 hown hK hW (k := k_2) hk8 (hts _ (wm 8 rfl)) dX10_round_81 ?_
              rw [← Option.some.inj hr]
              exact xiret hx hb hr0 hlocks hW adR_rf dX10_round_84
            · have hr := br_n c20_4 hr
              by_cases c20_5 : x2 = (5 : Int32)
              · have hr := br_p c20_5 hr
                refine lv_tableIn (tgt := 85) hx hb dX10_round_20 (by rw [c20_5]; decide) (by rw [c20_5]; decide) (off := 65) (by rw [c20_5]; decide) (by decide) ?_
                refine lv_aload_n hx hb dX10_round_85 rfl (lv_at hl 0 rfl) ?_
                refine g5_5 hx hb hts hi5 hown hK hW (k := k_2) hk8 (hts _ (wm 9 rfl)) dX10_round_86 ?_
                rw [← Option.some.inj hr]
                exact xiret hx hb hr0 hlocks hW adR_rf dX10_round_89
              · have hr := br_n c20_5 hr
                have hsw : x2.toInt < 0 ∨ 5 < x2.toInt := by
                  have hsw0 := lv_neT c20_0 (a := 0) rfl
                  have hsw1 := lv_neT c20_1 (a := 1) rfl
                  have hsw2 := lv_neT c20_2 (a := 2) rfl
                  have hsw3 := lv_neT c20_3 (a := 3) rfl
                  have hsw4 := lv_neT c20_4 (a := 4) rfl
                  have hsw5 := lv_neT c20_5 (a := 5) rfl
                  omega
                refine lv_tableOut (tgt := 90) hx hb dX10_round_20 hsw (by decide) ?_
                refine lv_ldc (v := (-2000000002 : Int32)) hx hb hown (hts _ (wm 10 rfl)) dX10_round_90 ?_
                rw [← Option.some.inj hr]
                exact xiret hx hb hr0 hlocks hW adR_rf dX10_round_92

set_option maxHeartbeats 4000000 in
set_option maxRecDepth 100000 in
theorem c_X10_volume (l : Launch) (D : va_G) (cA : Nat → ClassId) (ad : Nat → Nat) (M : Mm) (x1 : Int32) {r : Int64} (hr : f_X10_volume x1 M = some r) : Met l yX10_volume wsX10_volume ({ frames := 0, cells := 0, slots := 0, locals := 0 }) (PcX D true cA ad M [.ref (ad 224), .int x1]) (QlX false D true cA ad r M) 0 0 (AX true ad) := by
  refine Met.ofW (cc := cX10_volume) (maxL := 2) (ret := (some .long)) (by decide) rfl ?_
  intro p e s m args below meth c s₁ B hml hv
  obtain ⟨hav, hP0, hK⟩ := hv
  have hx := B.exec
  have hb := B.bytes
  have hr0 := B.returns
  have hts := atoms_spec (ws := wsX10_volume) B.pre
  have hown : s.vm.findClass RX10 = some m.cls := findClass_of_methodNamed B.named
  have hlocks := B.notSynchronized
  have hW := xstart hP0
  have hi8 : ∀ w ∈ wsX80, w ∈ wsX10_volume := fun w h => List.mem_cons_of_mem _ (List.mem_append_right _ h)
  have hi10 : ∀ w ∈ wsX100, w ∈ wsX10_volume := fun w h => List.mem_cons_of_mem _ (List.mem_append_left _ (List.mem_append_right _ h))
  have hl := lv_entry ([.ref (ad 224), .int x1]) (n := 2) (Nat.le_of_ble_eq_true rfl)
  have hef := lg_entry_eq m ([.ref (ad 224), .int x1]) 2
  rw [← hav] at hef
  rw [hef]
  clear hef
  generalize (lg_sl ([.ref (ad 224), .int x1]) ++ List.replicate (2 - (lg_sl ([.ref (ad 224), .int x1])).length) Slot.unset).toArray = ls at hl ⊢
  have hl : lv_has ls 2 [(0, .ref (ad 224)), (1, .int x1)] := hl
  clear hP0
  unfold f_X10_volume at hr
  refine lv_iload_n hx hb dX10_volume_0 rfl (lv_at hl 1 rfl) ?_
  by_cases c1_0 : x1 = (0 : Int32)
  · have hr := br_p c1_0 hr
    refine lv_tableIn (tgt := 28) hx hb dX10_volume_1 (by rw [c1_0]; decide) (by rw [c1_0]; decide) (off := 27) (by rw [c1_0]; decide) (by decide) ?_
    refine lv_aload_n hx hb dX10_volume_28 rfl (lv_at hl 0 rfl) ?_
    refine g10_0 hx hb hts hi10 hown hK hW (k := 224) rfl (hts _ (wm 1 rfl)) dX10_volume_29 ?_
    refine g8_8 hx hb hts hi8 hown hK hW (k := 0) rfl (hts _ (wm 2 rfl)) dX10_volume_32 ?_
    rw [← Option.some.inj hr]
    exact xlret hx hb hr0 hlocks hW adR_rf dX10_volume_35
  · have hr := br_n c1_0 hr
    by_cases c1_1 : x1 = (1 : Int32)
    · have hr := br_p c1_1 hr
      refine lv_tableIn (tgt := 36) hx hb dX10_volume_1 (by rw [c1_1]; decide) (by rw [c1_1]; decide) (off := 35) (by rw [c1_1]; decide) (by decide) ?_
      refine lv_aload_n hx hb dX10_volume_36 rfl (lv_at hl 0 rfl) ?_
      refine g10_0 hx hb hts hi10 hown hK hW (k := 224) rfl (hts _ (wm 1 rfl)) dX10_volume_37 ?_
      refine g8_9 hx hb hts hi8 hown hK hW (k := 0) rfl (hts _ (wm 3 rfl)) dX10_volume_40 ?_
      rw [← Option.some.inj hr]
      exact xlret hx hb hr0 hlocks hW adR_rf dX10_volume_43
    · have hr := br_n c1_1 hr
      by_cases c1_2 : x1 = (2 : Int32)
      · have hr := br_p c1_2 hr
        refine lv_tableIn (tgt := 44) hx hb dX10_volume_1 (by rw [c1_2]; decide) (by rw [c1_2]; decide) (off := 43) (by rw [c1_2]; decide) (by decide) ?_
        refine lv_aload_n hx hb dX10_volume_44 rfl (lv_at hl 0 rfl) ?_
        refine g10_0 hx hb hts hi10 hown hK hW (k := 224) rfl (hts _ (wm 1 rfl)) dX10_volume_45 ?_
        refine g8_8 hx hb hts hi8 hown hK hW (k := 0) rfl (hts _ (wm 2 rfl)) dX10_volume_48 ?_
        refine lv_aload_n hx hb dX10_volume_51 rfl (lv_at hl 0 rfl) ?_
        refine g10_0 hx hb hts hi10 hown hK hW (k := 224) rfl (hts _ (wm 1 rfl)) dX10_volume_52 ?_
        refine g8_9 hx hb hts hi8 hown hK hW (k := 0) rfl (hts _ (wm 3 rfl)) dX10_volume_55 ?_
        refine lv_lsub hx hb dX10_volume_58 ?_
        rw [← Option.some.inj hr]
        exact xlret hx hb hr0 hlocks hW adR_rf dX10_volume_59
      · have hr := br_n c1_2 hr
        have hsw : x1.toInt < 0 ∨ 2 < x1.toInt := by
          have hsw0 := lv_neT c1_0 (a := 0) rfl
          have hsw1 := lv_neT c1_1 (a := 1) rfl
          have hsw2 := lv_neT c1_2 (a := 2) rfl
          omega
        refine lv_tableOut (tgt := 60) hx hb dX10_volume_1 hsw (by decide) ?_
        refine lv_ldc2 (v := (-2000000002 : Int64)) hx hb hown (hts _ (wm 4 rfl)) dX10_volume_60 ?_
        rw [← Option.some.inj hr]
        exact xlret hx hb hr0 hlocks hW adR_rf dX10_volume_63

set_option maxHeartbeats 4000000 in
set_option maxRecDepth 100000 in
theorem c_X10_statistic (l : Launch) (D : va_G) (cA : Nat → ClassId) (ad : Nat → Nat) (M : Mm) (x1 : Int32) {r : Int32} (hr : f_X10_statistic x1 M = some r) : Met l yX10_statistic wsX10_statistic ({ frames := 3, cells := 0, slots := 0, locals := 67 }) (PcX D true cA ad M [.ref (ad 224), .int x1]) (QiX false D true cA ad r M) 0 0 (AX true ad) := by
  refine Met.ofW (cc := cX10_statistic) (maxL := 4) (ret := (some .int)) (by decide) rfl ?_
  intro p e s m args below meth c s₁ B hml hv
  obtain ⟨hav, hP0, hK⟩ := hv
  have hx := B.exec
  have hb := B.bytes
  have hr0 := B.returns
  have hts := atoms_spec (ws := wsX10_statistic) B.pre
  have hown : s.vm.findClass RX10 = some m.cls := findClass_of_methodNamed B.named
  have hlocks := B.notSynchronized
  have hW := xstart hP0
  have hi8 : ∀ w ∈ wsX80, w ∈ wsX10_statistic := fun w h => List.mem_cons_of_mem _ (List.mem_append_left _ (List.mem_append_left _ (List.mem_append_right _ h)))
  have hi10 : ∀ w ∈ wsX100, w ∈ wsX10_statistic := fun w h => List.mem_cons_of_mem _ (List.mem_append_left _ (List.mem_append_left _ (List.mem_append_left _ (List.mem_append_right _ h))))
  have hl := lv_entry ([.ref (ad 224), .int x1]) (n := 4) (Nat.le_of_ble_eq_true rfl)
  have hef := lg_entry_eq m ([.ref (ad 224), .int x1]) 4
  rw [← hav] at hef
  rw [hef]
  clear hef
  generalize (lg_sl ([.ref (ad 224), .int x1]) ++ List.replicate (4 - (lg_sl ([.ref (ad 224), .int x1])).length) Slot.unset).toArray = ls at hl ⊢
  have hl : lv_has ls 4 [(0, .ref (ad 224)), (1, .int x1)] := hl
  clear hP0
  unfold f_X10_statistic at hr
  refine lv_iload_n hx hb dX10_statistic_0 rfl (lv_at hl 1 rfl) ?_
  refine lv_iconst (v := (0 : Int32)) hx hb dX10_statistic_1 (by decide) ?_
  refine lv_iconst (v := (4 : Int32)) hx hb dX10_statistic_2 (by decide) ?_
  obtain ⟨r_1, hc3, hr⟩ := ob1_e hr
  refine xk_i (va_runS (As := [.int x1, .int (0 : Int32), .int (4 : Int32)]) (rest := []) ⟨hx, hb, hml, hown, hts⟩ (c_X10_isWithin l D cA ad M x1 (0 : Int32) (4 : Int32) hc3) (va_cwS 3 hts gX10_statistic_X10_isWithin rfl rfl rfl (by decide +kernel) ⟨Nat.le_of_ble_eq_true rfl, Nat.le_of_ble_eq_true rfl⟩) (xpreS hK hW) rfl rfl hl.1 rfl (lv_room (Nat.le_of_ble_eq_true rfl)) dX10_statistic_3 ⟨Nat.le_of_ble_eq_true rfl, Nat.le_of_ble_eq_true rfl⟩) hW (fun H locs hW => ?_)
  refine lv_if_ne (tgt := 12) hx hb dX10_statistic_6 (by decide) (fun c1 => ?_) (fun c1 => ?_)
  · have hr := br_n c1 hr
    refine lv_aload_n hx hb dX10_statistic_12 rfl (lv_at hl 0 rfl) ?_
    refine g10_0 hx hb hts hi10 hown hK hW (k := 224) rfl (hts _ (wm 2 rfl)) dX10_statistic_13 ?_
    refine g8_5 hx hb hts hi8 hown hK hW (k := 0) rfl (hts _ (wm 3 rfl)) dX10_statistic_16 ?_
    refine lv_astore_n (lv' := [(2, .ref (ad 14)), (0, .ref (ad 224)), (1, .int x1)]) hx hb dX10_statistic_19 rfl hl (by decide) rfl (fun ls hl => ?_)
    refine lv_aload_n hx hb dX10_statistic_20 rfl (lv_at hl 0 rfl) ?_
    obtain ⟨r_2, hc21, hr⟩ := ob1_e hr
    refine xk_i (va_runV (As := []) (rest := []) ⟨hx, hb, hml, hown, hts⟩ (c_X6_measuredCount l D cA ad M hc21) (cwV 0 hts gX10_statistic_X6_measuredCount rfl rfl rfl (by decide +kernel) ⟨Nat.le_of_ble_eq_true rfl, Nat.le_of_ble_eq_true rfl⟩) (xpreV hK hW (k := 14) rfl (by decide) rfl) rfl rfl hl.1 rfl (lv_room (Nat.le_of_ble_eq_true rfl)) dX10_statistic_21 ⟨Nat.le_of_ble_eq_true rfl, Nat.le_of_ble_eq_true rfl⟩) hW (fun H locs hW => ?_)
    refine lv_istore_n (lv' := [(3, .int r_2), (2, .ref (ad 14)), (0, .ref (ad 224)), (1, .int x1)]) hx hb dX10_statistic_24 rfl hl (by decide) rfl (fun ls hl => ?_)
    refine lv_iload_n hx hb dX10_statistic_25 rfl (lv_at hl 3 rfl) ?_
    refine lv_if_ne (tgt := 31) hx hb dX10_statistic_26 (by decide) (fun c1 => ?_) (fun c1 => ?_)
    · have hr := br_n c1 hr
      refine lv_iload_n hx hb dX10_statistic_31 rfl (lv_at hl 0 rfl) ?_
      refine lv_if_ne (tgt := 38) hx hb dX10_statistic_32 (by decide) (fun c1 => ?_) (fun c1 => ?_)
      · have hr := br_n c1 hr
        refine lv_iload_n hx hb dX10_statistic_38 rfl (lv_at hl 3 rfl) ?_
        by_cases c39_0 : x1 = (1 : Int32)
        · have hr := br_p c39_0 hr
          refine lv_tableIn (tgt := 64) hx hb dX10_statistic_39 (by rw [c39_0]; decide) (by rw [c39_0]; decide) (off := 25) (by rw [c39_0]; decide) (by decide) ?_
          refine lv_aload_n hx hb dX10_statistic_64 rfl (lv_at hl 1 rfl) ?_
          refine lv_iconst (v := (0 : Int32)) hx hb dX10_statistic_65 (by decide) ?_
          obtain ⟨r_3, hc66, hr⟩ := ob1_e hr
          refine xk_i (va_runV (As := [.int (0 : Int32)]) (rest := []) ⟨hx, hb, hml, hown, hts⟩ (c_X6_ranked l D cA ad M (0 : Int32) hc66) (cwV 1 hts gX10_statistic_X6_ranked rfl rfl rfl (by decide +kernel) ⟨Nat.le_of_ble_eq_true rfl, Nat.le_of_ble_eq_true rfl⟩) (xpreV hK hW (k := 14) rfl (by decide) rfl) rfl rfl hl.1 rfl (lv_room (Nat.le_of_ble_eq_true rfl)) dX10_statistic_66 ⟨Nat.le_of_ble_eq_true rfl, Nat.le_of_ble_eq_true rfl⟩) hW (fun H locs hW => ?_)
          rw [← Option.some.inj hr]
          exact xiret hx hb hr0 hlocks hW adR_rf dX10_statistic_69
        · have hr := br_n c39_0 hr
          by_cases c39_1 : x1 = (2 : Int32)
          · have hr := br_p c39_1 hr
            refine lv_tableIn (tgt := 70) hx hb dX10_statistic_39 (by rw [c39_1]; decide) (by rw [c39_1]; decide) (off := 31) (by rw [c39_1]; decide) (by decide) ?_
            refine lv_aload_n hx hb dX10_statistic_70 rfl (lv_at hl 1 rfl) ?_
            refine lv_iload_n hx hb dX10_statistic_71 rfl (lv_at hl 0 rfl) ?_
            refine lv_iconst (v := (1 : Int32)) hx hb dX10_statistic_72 (by decide) ?_
            refine lv_isub hx hb dX10_statistic_73 ?_
            obtain ⟨r_4, hc74, hr⟩ := ob1_e hr
            refine xk_i (va_runV (As := [.int (r_2 - (1 : Int32))]) (rest := []) ⟨hx, hb, hml, hown, hts⟩ (c_X6_ranked l D cA ad M (r_2 - (1 : Int32)) hc74) (cwV 1 hts gX10_statistic_X6_ranked rfl rfl rfl (by decide +kernel) ⟨Nat.le_of_ble_eq_true rfl, Nat.le_of_ble_eq_true rfl⟩) (xpreV hK hW (k := 14) rfl (by decide) rfl) rfl rfl hl.1 rfl (lv_room (Nat.le_of_ble_eq_true rfl)) dX10_statistic_74 ⟨Nat.le_of_ble_eq_true rfl, Nat.le_of_ble_eq_true rfl⟩) hW (fun H locs hW => ?_)
            rw [← Option.some.inj hr]
            exact xiret hx hb hr0 hlocks hW adR_rf dX10_statistic_77
          · have hr := br_n c39_1 hr
            by_cases c39_2 : x1 = (3 : Int32)
            · have hr := br_p c39_2 hr
              refine lv_tableIn (tgt := 78) hx hb dX10_statistic_39 (by rw [c39_2]; decide) (by rw [c39_2]; decide) (off := 39) (by rw [c39_2]; decide) (by decide) ?_
              refine lv_aload_n hx hb dX10_statistic_78 rfl (lv_at hl 1 rfl) ?_
              obtain ⟨r_5, hc79, hr⟩ := ob1_e hr
              refine xk_i (va_runV (As := []) (rest := []) ⟨hx, hb, hml, hown, hts⟩ (c_X6_average l D cA ad M hc79) (cwV 0 hts gX10_statistic_X6_average rfl rfl rfl (by decide +kernel) ⟨Nat.le_of_ble_eq_true rfl, Nat.le_of_ble_eq_true rfl⟩) (xpreV hK hW (k := 14) rfl (by decide) rfl) rfl rfl hl.1 rfl (lv_room (Nat.le_of_ble_eq_true rfl)) dX10_statistic_79 ⟨Nat.le_of_ble_eq_true rfl, Nat.le_of_ble_eq_true rfl⟩) hW (fun H locs hW => ?_)
              rw [← Option.some.inj hr]
              exact xiret hx hb hr0 hlocks hW adR_rf dX10_statistic_82
            · have hr := br_n c39_2 hr
              have hsw : x1.toInt < 1 ∨ 3 < x1.toInt := by
                have hsw0 := lv_neT c39_0 (a := 1) rfl
                have hsw1 := lv_neT c39_1 (a := 2) rfl
                have hsw2 := lv_neT c39_2 (a := 3) rfl
                omega
              refine lv_tableOut (tgt := 83) hx hb dX10_statistic_39 hsw (by decide) ?_
              refine lv_aload_n hx hb dX10_statistic_83 rfl (lv_at hl 1 rfl) ?_
              refine lv_iload_n hx hb dX10_statistic_84 rfl (lv_at hl 0 rfl) ?_
              refine lv_iconst (v := (1 : Int32)) hx hb dX10_statistic_85 (by decide) ?_
              refine lv_isub hx hb dX10_statistic_86 ?_
              refine lv_iconst (v := (2 : Int32)) hx hb dX10_statistic_87 (by decide) ?_
              refine lv_idiv hx hb dX10_statistic_88 (by decide) ?_
              obtain ⟨r_6, hc89, hr⟩ := ob1_e hr
              refine xk_i (va_runV (As := [.int ((r_2 - (1 : Int32)) / (2 : Int32))]) (rest := []) ⟨hx, hb, hml, hown, hts⟩ (c_X6_ranked l D cA ad M ((r_2 - (1 : Int32)) / (2 : Int32)) hc89) (cwV 1 hts gX10_statistic_X6_ranked rfl rfl rfl (by decide +kernel) ⟨Nat.le_of_ble_eq_true rfl, Nat.le_of_ble_eq_true rfl⟩) (xpreV hK hW (k := 14) rfl (by decide) rfl) rfl rfl hl.1 rfl (lv_room (Nat.le_of_ble_eq_true rfl)) dX10_statistic_89 ⟨Nat.le_of_ble_eq_true rfl, Nat.le_of_ble_eq_true rfl⟩) hW (fun H locs hW => ?_)
              refine lv_aload_n hx hb dX10_statistic_92 rfl (lv_at hl 1 rfl) ?_
              refine lv_iload_n hx hb dX10_statistic_93 rfl (lv_at hl 0 rfl) ?_
              refine lv_iconst (v := (2 : Int32)) hx hb dX10_statistic_94 (by decide) ?_
              refine lv_idiv hx hb dX10_statistic_95 (by decide) ?_
              obtain ⟨r_7, hc96, hr⟩ := ob1_e hr
              refine xk_i (va_runV (As := [.int (r_2 / (2 : Int32))]) (rest := [.int r_6]) ⟨hx, hb, hml, hown, hts⟩ (c_X6_ranked l D cA ad M (r_2 / (2 : Int32)) hc96) (cwV 1 hts gX10_statistic_X6_ranked rfl rfl rfl (by decide +kernel) ⟨Nat.le_of_ble_eq_true rfl, Nat.le_of_ble_eq_true rfl⟩) (xpreV hK hW (k := 14) rfl (by decide) rfl) rfl rfl hl.1 rfl (lv_room (Nat.le_of_ble_eq_true rfl)) dX10_statistic_96 ⟨Nat.le_of_ble_eq_true rfl, Nat.le_of_ble_eq_true rfl⟩) hW (fun H locs hW => ?_)
              refine lv_iadd hx hb dX10_statistic_99 ?_
              refine lv_iconst (v := (2 : Int32)) hx hb dX10_statistic_100 (by decide) ?_
              refine lv_idiv hx hb dX10_statistic_101 (by decide) ?_
              rw [← Option.some.inj hr]
              exact xiret hx hb hr0 hlocks hW adR_rf dX10_statistic_102
      · have hr := br_p c1 hr
        refine lv_ldc (v := (-2000000005 : Int32)) hx hb hown (hts _ (wm 4 rfl)) dX10_statistic_35 ?_
        rw [← Option.some.inj hr]
        exact xiret hx hb hr0 hlocks hW adR_rf dX10_statistic_37
    · have hr := br_p c1 hr
      refine lv_iload_n hx hb dX10_statistic_29 rfl (lv_at hl 0 rfl) ?_
      rw [← Option.some.inj hr]
      exact xiret hx hb hr0 hlocks hW adR_rf dX10_statistic_30
  · have hr := br_p c1 hr
    refine lv_ldc (v := (-2000000002 : Int32)) hx hb hown (hts _ (wm 1 rfl)) dX10_statistic_9 ?_
    rw [← Option.some.inj hr]
    exact xiret hx hb hr0 hlocks hW adR_rf dX10_statistic_11

set_option maxHeartbeats 4000000 in
set_option maxRecDepth 100000 in
theorem c_X10_trust (l : Launch) (D : va_G) (cA : Nat → ClassId) (ad : Nat → Nat) (M : Mm) (x1 : Int32) {r : Int32} (hr : f_X10_trust x1 M = some r) : Met l yX10_trust wsX10_trust ({ frames := 3, cells := 0, slots := 0, locals := 68 }) (PcX D true cA ad M [.ref (ad 224), .int x1]) (QiX false D true cA ad r M) 0 0 (AX true ad) := by
  refine Met.ofW (cc := cX10_trust) (maxL := 3) (ret := (some .int)) (by decide) rfl ?_
  intro p e s m args below meth c s₁ B hml hv
  obtain ⟨hav, hP0, hK⟩ := hv
  have hx := B.exec
  have hb := B.bytes
  have hr0 := B.returns
  have hts := atoms_spec (ws := wsX10_trust) B.pre
  have hown : s.vm.findClass RX10 = some m.cls := findClass_of_methodNamed B.named
  have hlocks := B.notSynchronized
  have hW := xstart hP0
  have hi8 : ∀ w ∈ wsX80, w ∈ wsX10_trust := fun w h => List.mem_cons_of_mem _ (List.mem_append_left _ (List.mem_append_right _ h))
  have hi10 : ∀ w ∈ wsX100, w ∈ wsX10_trust := fun w h => List.mem_cons_of_mem _ (List.mem_append_left _ (List.mem_append_left _ (List.mem_append_right _ h)))
  have hl := lv_entry ([.ref (ad 224), .int x1]) (n := 3) (Nat.le_of_ble_eq_true rfl)
  have hef := lg_entry_eq m ([.ref (ad 224), .int x1]) 3
  rw [← hav] at hef
  rw [hef]
  clear hef
  generalize (lg_sl ([.ref (ad 224), .int x1]) ++ List.replicate (3 - (lg_sl ([.ref (ad 224), .int x1])).length) Slot.unset).toArray = ls at hl ⊢
  have hl : lv_has ls 3 [(0, .ref (ad 224)), (1, .int x1)] := hl
  clear hP0
  unfold f_X10_trust at hr
  refine lv_iload_n hx hb dX10_trust_0 rfl (lv_at hl 1 rfl) ?_
  refine lv_if_ge (tgt := 7) hx hb dX10_trust_1 (by decide) (fun c1 => ?_) (fun c1 => ?_)
  · have hr := br_p c1 hr
    refine lv_iconst (v := (0 : Int32)) hx hb dX10_trust_7 (by decide) ?_
    refine lv_istore_n (lv' := [(2, .int (0 : Int32)), (0, .ref (ad 224)), (1, .int x1)]) hx hb dX10_trust_8 rfl hl (by decide) rfl (fun ls hl => ?_)
    have hL9_1 : ∀ (n : Nat) (x2_1 : Int32) (H : Heap) (locs : List Loc) (ls : Array Slot), Xw D true cA ad M (AX true ad) s.heap H locs → lv_has ls 3 [(0, .ref (ad 224)), (1, .int x1), (2, .int x2_1)] → f_X10_trust_L9 M x1 n x2_1 = some r → W p l e (headSpec wsX10_trust { frames := 3, cells := 0, slots := 0, locals := 68 }).room s m args below meth c H locs 0 0 (MQ below (QiX false D true cA ad r M) args s 0 0 (AX true ad)) (F0 m 9 ls []) := by
      intro n
      induction n with
      | zero =>
        intro x2_1 H locs ls hW hl hr
        exact absurd hr (by simp [f_X10_trust_L9])
      | succ n ih =>
        intro x2_1 H locs ls hW hl hr
        rw [f_X10_trust_L9] at hr
        refine lv_iload_n hx hb dX10_trust_9 rfl (lv_at hl 2 rfl) ?_
        refine lv_iconst (v := (4 : Int32)) hx hb dX10_trust_10 (by decide) ?_
        refine lv_icmp_ge (tgt := 45) hx hb dX10_trust_11 (by decide) (fun c1 => ?_) (fun c1 => ?_)
        · have hr := br_p c1 hr
          refine lv_ldc (v := (-2000000005 : Int32)) hx hb hown (hts _ (wm 4 rfl)) dX10_trust_45 ?_
          rw [← Option.some.inj hr]
          exact xiret hx hb hr0 hlocks hW adR_rf dX10_trust_47
        · have hr := br_n c1 hr
          refine lv_iload_n hx hb dX10_trust_14 rfl (lv_at hl 2 rfl) ?_
          refine lv_aload_n hx hb dX10_trust_15 rfl (lv_at hl 0 rfl) ?_
          refine g10_0 hx hb hts hi10 hown hK hW (k := 224) rfl (hts _ (wm 2 rfl)) dX10_trust_16 ?_
          refine g8_1 hx hb hts hi8 hown hK hW (k := 0) rfl (hts _ (wm 3 rfl)) dX10_trust_19 ?_
          refine lv_icmp_ge (tgt := 45) hx hb dX10_trust_22 (by decide) (fun c1 => ?_) (fun c1 => ?_)
          · have hr := br_p c1 hr
            refine lv_ldc (v := (-2000000005 : Int32)) hx hb hown (hts _ (wm 4 rfl)) dX10_trust_45 ?_
            rw [← Option.some.inj hr]
            exact xiret hx hb hr0 hlocks hW adR_rf dX10_trust_47
          · have hr := br_n c1 hr
            refine lv_aload_n hx hb dX10_trust_25 rfl (lv_at hl 0 rfl) ?_
            refine g10_0 hx hb hts hi10 hown hK hW (k := 224) rfl (hts _ (wm 2 rfl)) dX10_trust_26 ?_
            refine lv_iload_n hx hb dX10_trust_29 rfl (lv_at hl 2 rfl) ?_
            obtain ⟨r_2, hc30, hr⟩ := ob1_e hr
            refine xk_i (va_runV (As := [.int x2_1]) (rest := []) ⟨hx, hb, hml, hown, hts⟩ (c_X8_placeInTrust l D cA ad M x2_1 hc30) (cwV 1 hts gX10_trust_X8_placeInTrust rfl rfl rfl (by decide +kernel) ⟨Nat.le_of_ble_eq_true rfl, Nat.le_of_ble_eq_true rfl⟩) (xpreV hK hW (k := 0) rfl (by decide) rfl) rfl rfl hl.1 rfl (lv_room (Nat.le_of_ble_eq_true rfl)) dX10_trust_30 ⟨Nat.le_of_ble_eq_true rfl, Nat.le_of_ble_eq_true rfl⟩) hW (fun H locs hW => ?_)
            refine lv_iload_n hx hb dX10_trust_33 rfl (lv_at hl 1 rfl) ?_
            refine lv_icmp_ne (tgt := 39) hx hb dX10_trust_34 (by decide) (fun c1 => ?_) (fun c1 => ?_)
            · have hr := br_n c1 hr
              obtain ⟨x2_3, ex2_3, hr⟩ := lt1_e hr
              refine lv_iinc (v := x2_3) (lv' := [(2, .int x2_3), (0, .ref (ad 224)), (1, .int x1)]) hx hb dX10_trust_39 hl (k := 2) rfl (by rw [ex2_3]; rfl) (by decide) rfl (fun ls hl => ?_)
              refine lv_goto (tgt := 9) hx hb dX10_trust_42 (by decide) ?_
              exact ih x2_3 _ _ _ hW (lv_sub hl [1, 2, 0] rfl) hr
            · have hr := br_p c1 hr
              refine lv_iload_n hx hb dX10_trust_37 rfl (lv_at hl 2 rfl) ?_
              rw [← Option.some.inj hr]
              exact xiret hx hb hr0 hlocks hW adR_rf dX10_trust_38
    exact hL9_1 1000 (0 : Int32) _ _ _ hW (lv_sub hl [1, 2, 0] rfl) hr
  · have hr := br_n c1 hr
    refine lv_ldc (v := (-2000000002 : Int32)) hx hb hown (hts _ (wm 1 rfl)) dX10_trust_4 ?_
    rw [← Option.some.inj hr]
    exact xiret hx hb hr0 hlocks hW adR_rf dX10_trust_6

set_option maxHeartbeats 4000000 in
set_option maxRecDepth 100000 in
theorem c_X10_total (l : Launch) (D : va_G) (cA : Nat → ClassId) (ad : Nat → Nat) (M : Mm) (x1 : Int32) {r : Int32} (hr : f_X10_total x1 M = some r) : Met l yX10_total wsX10_total ({ frames := 2, cells := 0, slots := 0, locals := 45 }) (PcX D true cA ad M [.ref (ad 224), .int x1]) (QiX false D true cA ad r M) 0 0 (AX true ad) := by
  refine Met.ofW (cc := cX10_total) (maxL := 3) (ret := (some .int)) (by decide) rfl ?_
  intro p e s m args below meth c s₁ B hml hv
  obtain ⟨hav, hP0, hK⟩ := hv
  have hx := B.exec
  have hb := B.bytes
  have hr0 := B.returns
  have hts := atoms_spec (ws := wsX10_total) B.pre
  have hown : s.vm.findClass RX10 = some m.cls := findClass_of_methodNamed B.named
  have hlocks := B.notSynchronized
  have hW := xstart hP0
  have hi1 : ∀ w ∈ wsX10, w ∈ wsX10_total := fun w h => List.mem_cons_of_mem _ (List.mem_append_left _ (List.mem_append_left _ (List.mem_append_left _ (List.mem_append_right _ h))))
  have hi4 : ∀ w ∈ wsX40, w ∈ wsX10_total := fun w h => List.mem_cons_of_mem _ (List.mem_append_left _ (List.mem_append_left _ (List.mem_append_left _ (List.mem_append_left _ (List.mem_append_left _ (List.mem_append_right _ h))))))
  have hi6 : ∀ w ∈ wsX60, w ∈ wsX10_total := fun w h => List.mem_cons_of_mem _ (List.mem_append_left _ (List.mem_append_left _ (List.mem_append_left _ (List.mem_append_left _ (List.mem_append_right _ h)))))
  have hi8 : ∀ w ∈ wsX80, w ∈ wsX10_total := fun w h => List.mem_cons_of_mem _ (List.mem_append_left _ (List.mem_append_left _ (List.mem_append_left _ (List.mem_append_left _ (List.mem_append_left _ (List.mem_append_left _ (List.mem_append_right _ h)))))))
  have hi9 : ∀ w ∈ wsX90, w ∈ wsX10_total := fun w h => List.mem_cons_of_mem _ (List.mem_append_left _ (List.mem_append_left _ (List.mem_append_right _ h)))
  have hi10 : ∀ w ∈ wsX100, w ∈ wsX10_total := fun w h => List.mem_cons_of_mem _ (List.mem_append_left _ (List.mem_append_left _ (List.mem_append_left _ (List.mem_append_left _ (List.mem_append_left _ (List.mem_append_left _ (List.mem_append_left _ (List.mem_append_right _ h))))))))
  have hl := lv_entry ([.ref (ad 224), .int x1]) (n := 3) (Nat.le_of_ble_eq_true rfl)
  have hef := lg_entry_eq m ([.ref (ad 224), .int x1]) 3
  rw [← hav] at hef
  rw [hef]
  clear hef
  generalize (lg_sl ([.ref (ad 224), .int x1]) ++ List.replicate (3 - (lg_sl ([.ref (ad 224), .int x1])).length) Slot.unset).toArray = ls at hl ⊢
  have hl : lv_has ls 3 [(0, .ref (ad 224)), (1, .int x1)] := hl
  clear hP0
  unfold f_X10_total at hr
  refine lv_iload_n hx hb dX10_total_0 rfl (lv_at hl 1 rfl) ?_
  by_cases c1_0 : x1 = (0 : Int32)
  · have hr := br_p c1_0 hr
    refine lv_tableIn (tgt := 56) hx hb dX10_total_1 (by rw [c1_0]; decide) (by rw [c1_0]; decide) (off := 55) (by rw [c1_0]; decide) (by decide) ?_
    refine lv_aload_n hx hb dX10_total_56 rfl (lv_at hl 0 rfl) ?_
    refine g10_0 hx hb hts hi10 hown hK hW (k := 224) rfl (hts _ (wm 1 rfl)) dX10_total_57 ?_
    refine g8_1 hx hb hts hi8 hown hK hW (k := 0) rfl (hts _ (wm 2 rfl)) dX10_total_60 ?_
    rw [← Option.some.inj hr]
    exact xiret hx hb hr0 hlocks hW adR_rf dX10_total_63
  · have hr := br_n c1_0 hr
    by_cases c1_1 : x1 = (1 : Int32)
    · have hr := br_p c1_1 hr
      refine lv_tableIn (tgt := 64) hx hb dX10_total_1 (by rw [c1_1]; decide) (by rw [c1_1]; decide) (off := 63) (by rw [c1_1]; decide) (by decide) ?_
      refine lv_aload_n hx hb dX10_total_64 rfl (lv_at hl 0 rfl) ?_
      refine g10_0 hx hb hts hi10 hown hK hW (k := 224) rfl (hts _ (wm 1 rfl)) dX10_total_65 ?_
      refine g8_2 hx hb hts hi8 hown hK hW (k := 0) rfl (hts _ (wm 3 rfl)) dX10_total_68 ?_
      refine g4_2 hx hb hts hi4 hown hK hW (k := 10) rfl (hts _ (wm 4 rfl)) dX10_total_71 ?_
      rw [← Option.some.inj hr]
      exact xiret hx hb hr0 hlocks hW adR_rf dX10_total_74
    · have hr := br_n c1_1 hr
      by_cases c1_2 : x1 = (2 : Int32)
      · have hr := br_p c1_2 hr
        refine lv_tableIn (tgt := 75) hx hb dX10_total_1 (by rw [c1_2]; decide) (by rw [c1_2]; decide) (off := 74) (by rw [c1_2]; decide) (by decide) ?_
        refine lv_aload_n hx hb dX10_total_75 rfl (lv_at hl 0 rfl) ?_
        refine g10_0 hx hb hts hi10 hown hK hW (k := 224) rfl (hts _ (wm 1 rfl)) dX10_total_76 ?_
        obtain ⟨r_1, hc79, hr⟩ := ob1_e hr
        refine xk_i (va_runV (As := []) (rest := []) ⟨hx, hb, hml, hown, hts⟩ (c_X8_toldShots l D cA ad M hc79) (cwV 0 hts gX10_total_X8_toldShots rfl rfl rfl (by decide +kernel) ⟨Nat.le_of_ble_eq_true rfl, Nat.le_of_ble_eq_true rfl⟩) (xpreV hK hW (k := 0) rfl (by decide) rfl) rfl rfl hl.1 rfl (lv_room (Nat.le_of_ble_eq_true rfl)) dX10_total_79 ⟨Nat.le_of_ble_eq_true rfl, Nat.le_of_ble_eq_true rfl⟩) hW (fun H locs hW => ?_)
        rw [← Option.some.inj hr]
        exact xiret hx hb hr0 hlocks hW adR_rf dX10_total_82
      · have hr := br_n c1_2 hr
        by_cases c1_3 : x1 = (3 : Int32)
        · have hr := br_p c1_3 hr
          refine lv_tableIn (tgt := 83) hx hb dX10_total_1 (by rw [c1_3]; decide) (by rw [c1_3]; decide) (off := 82) (by rw [c1_3]; decide) (by decide) ?_
          refine lv_aload_n hx hb dX10_total_83 rfl (lv_at hl 0 rfl) ?_
          refine g10_0 hx hb hts hi10 hown hK hW (k := 224) rfl (hts _ (wm 1 rfl)) dX10_total_84 ?_
          refine g8_6 hx hb hts hi8 hown hK hW (k := 0) rfl (hts _ (wm 5 rfl)) dX10_total_87 ?_
          rw [← Option.some.inj hr]
          exact xiret hx hb hr0 hlocks hW adR_rf dX10_total_90
        · have hr := br_n c1_3 hr
          by_cases c1_4 : x1 = (4 : Int32)
          · have hr := br_p c1_4 hr
            refine lv_tableIn (tgt := 91) hx hb dX10_total_1 (by rw [c1_4]; decide) (by rw [c1_4]; decide) (off := 90) (by rw [c1_4]; decide) (by decide) ?_
            refine lv_aload_n hx hb dX10_total_91 rfl (lv_at hl 0 rfl) ?_
            refine g10_0 hx hb hts hi10 hown hK hW (k := 224) rfl (hts _ (wm 1 rfl)) dX10_total_92 ?_
            refine g8_7 hx hb hts hi8 hown hK hW (k := 0) rfl (hts _ (wm 6 rfl)) dX10_total_95 ?_
            rw [← Option.some.inj hr]
            exact xiret hx hb hr0 hlocks hW adR_rf dX10_total_98
          · have hr := br_n c1_4 hr
            by_cases c1_5 : x1 = (5 : Int32)
            · have hr := br_p c1_5 hr
              refine lv_tableIn (tgt := 99) hx hb dX10_total_1 (by rw [c1_5]; decide) (by rw [c1_5]; decide) (off := 98) (by rw [c1_5]; decide) (by decide) ?_
              refine lv_aload_n hx hb dX10_total_99 rfl (lv_at hl 0 rfl) ?_
              refine g10_0 hx hb hts hi10 hown hK hW (k := 224) rfl (hts _ (wm 1 rfl)) dX10_total_100 ?_
              refine g8_5 hx hb hts hi8 hown hK hW (k := 0) rfl (hts _ (wm 7 rfl)) dX10_total_103 ?_
              refine g6_1 hx hb hts hi6 hown hK hW (k := 14) rfl (hts _ (wm 8 rfl)) dX10_total_106 ?_
              rw [← Option.some.inj hr]
              exact xiret hx hb hr0 hlocks hW adR_rf dX10_total_109
            · have hr := br_n c1_5 hr
              by_cases c1_6 : x1 = (6 : Int32)
              · have hr := br_p c1_6 hr
                refine lv_tableIn (tgt := 110) hx hb dX10_total_1 (by rw [c1_6]; decide) (by rw [c1_6]; decide) (off := 109) (by rw [c1_6]; decide) (by decide) ?_
                refine lv_aload_n hx hb dX10_total_110 rfl (lv_at hl 0 rfl) ?_
                refine g10_0 hx hb hts hi10 hown hK hW (k := 224) rfl (hts _ (wm 1 rfl)) dX10_total_111 ?_
                refine g8_4 hx hb hts hi8 hown hK hW (k := 0) rfl (hts _ (wm 9 rfl)) dX10_total_114 ?_
                obtain ⟨r_2, hc117, hr⟩ := ob1_e hr
                refine xk_i (va_runS (As := [.int (gI M 0 4)]) (rest := []) ⟨hx, hb, hml, hown, hts⟩ (c_X10_asNumber l D cA ad M (gI M 0 4) hc117) (va_cwS 1 hts gX10_total_X10_asNumber rfl rfl rfl (by decide +kernel) ⟨Nat.le_of_ble_eq_true rfl, Nat.le_of_ble_eq_true rfl⟩) (xpreS hK hW) rfl rfl hl.1 rfl (lv_room (Nat.le_of_ble_eq_true rfl)) dX10_total_117 ⟨Nat.le_of_ble_eq_true rfl, Nat.le_of_ble_eq_true rfl⟩) hW (fun H locs hW => ?_)
                rw [← Option.some.inj hr]
                exact xiret hx hb hr0 hlocks hW adR_rf dX10_total_120
              · have hr := br_n c1_6 hr
                by_cases c1_7 : x1 = (7 : Int32)
                · have hr := br_p c1_7 hr
                  refine lv_tableIn (tgt := 121) hx hb dX10_total_1 (by rw [c1_7]; decide) (by rw [c1_7]; decide) (off := 120) (by rw [c1_7]; decide) (by decide) ?_
                  refine lv_aload_n hx hb dX10_total_121 rfl (lv_at hl 0 rfl) ?_
                  refine g10_0 hx hb hts hi10 hown hK hW (k := 224) rfl (hts _ (wm 1 rfl)) dX10_total_122 ?_
                  obtain ⟨r_3, hc125, hr⟩ := ob1_e hr
                  refine xk_i (va_runV (As := []) (rest := []) ⟨hx, hb, hml, hown, hts⟩ (c_X8_failingPaths l D cA ad M hc125) (cwV 0 hts gX10_total_X8_failingPaths rfl rfl rfl (by decide +kernel) ⟨Nat.le_of_ble_eq_true rfl, Nat.le_of_ble_eq_true rfl⟩) (xpreV hK hW (k := 0) rfl (by decide) rfl) rfl rfl hl.1 rfl (lv_room (Nat.le_of_ble_eq_true rfl)) dX10_total_125 ⟨Nat.le_of_ble_eq_true rfl, Nat.le_of_ble_eq_true rfl⟩) hW (fun H locs hW => ?_)
                  rw [← Option.some.inj hr]
                  exact xiret hx hb hr0 hlocks hW adR_rf dX10_total_128
                · have hr := br_n c1_7 hr
                  by_cases c1_8 : x1 = (8 : Int32)
                  · have hr := br_p c1_8 hr
                    refine lv_tableIn (tgt := 129) hx hb dX10_total_1 (by rw [c1_8]; decide) (by rw [c1_8]; decide) (off := 128) (by rw [c1_8]; decide) (by decide) ?_
                    refine lv_aload_n hx hb dX10_total_129 rfl (lv_at hl 0 rfl) ?_
                    refine g10_1 hx hb hts hi10 hown hK hW (k := 224) rfl (hts _ (wm 10 rfl)) dX10_total_130 ?_
                    refine g1_1 hx hb hts hi1 hown hK hW (k := 225) rfl (hts _ (wm 11 rfl)) dX10_total_133 ?_
                    rw [← Option.some.inj hr]
                    exact xiret hx hb hr0 hlocks hW adR_rf dX10_total_136
                  · have hr := br_n c1_8 hr
                    by_cases c1_9 : x1 = (9 : Int32)
                    · have hr := br_p c1_9 hr
                      refine lv_tableIn (tgt := 137) hx hb dX10_total_1 (by rw [c1_9]; decide) (by rw [c1_9]; decide) (off := 136) (by rw [c1_9]; decide) (by decide) ?_
                      refine lv_aload_n hx hb dX10_total_137 rfl (lv_at hl 0 rfl) ?_
                      refine g10_5 hx hb hts hi10 hown hK hW (k := 224) rfl (hts _ (wm 12 rfl)) dX10_total_138 ?_
                      refine g9_1 hx hb hts hi9 hown hK hW (k := 230) rfl (hts _ (wm 13 rfl)) dX10_total_141 ?_
                      rw [← Option.some.inj hr]
                      exact xiret hx hb hr0 hlocks hW adR_rf dX10_total_144
                    · have hr := br_n c1_9 hr
                      have hsw : x1.toInt < 0 ∨ 9 < x1.toInt := by
                        have hsw0 := lv_neT c1_0 (a := 0) rfl
                        have hsw1 := lv_neT c1_1 (a := 1) rfl
                        have hsw2 := lv_neT c1_2 (a := 2) rfl
                        have hsw3 := lv_neT c1_3 (a := 3) rfl
                        have hsw4 := lv_neT c1_4 (a := 4) rfl
                        have hsw5 := lv_neT c1_5 (a := 5) rfl
                        have hsw6 := lv_neT c1_6 (a := 6) rfl
                        have hsw7 := lv_neT c1_7 (a := 7) rfl
                        have hsw8 := lv_neT c1_8 (a := 8) rfl
                        have hsw9 := lv_neT c1_9 (a := 9) rfl
                        omega
                      refine lv_tableOut (tgt := 145) hx hb dX10_total_1 hsw (by decide) ?_
                      refine lv_iload_n hx hb dX10_total_145 rfl (lv_at hl 1 rfl) ?_
                      refine lv_bipush (v := (10 : Int32)) hx hb dX10_total_146 (by decide) ?_
                      refine lv_bipush (v := (14 : Int32)) hx hb dX10_total_148 (by decide) ?_
                      obtain ⟨r_4, hc150, hr⟩ := ob1_e hr
                      refine xk_i (va_runS (As := [.int x1, .int (10 : Int32), .int (14 : Int32)]) (rest := []) ⟨hx, hb, hml, hown, hts⟩ (c_X10_isWithin l D cA ad M x1 (10 : Int32) (14 : Int32) hc150) (va_cwS 3 hts gX10_total_X10_isWithin rfl rfl rfl (by decide +kernel) ⟨Nat.le_of_ble_eq_true rfl, Nat.le_of_ble_eq_true rfl⟩) (xpreS hK hW) rfl rfl hl.1 rfl (lv_room (Nat.le_of_ble_eq_true rfl)) dX10_total_150 ⟨Nat.le_of_ble_eq_true rfl, Nat.le_of_ble_eq_true rfl⟩) hW (fun H locs hW => ?_)
                      obtain ⟨y_5, hr, hr3⟩ := ob1_e hr
                      have hj164_5 : ∀ (H : Heap) (locs : List Loc) (ls : Array Slot), Xw D true cA ad M (AX true ad) s.heap H locs → lv_has ls 3 [(0, .ref (ad 224))] → W p l e (headSpec wsX10_total { frames := 2, cells := 0, slots := 0, locals := 45 }).room s m args below meth c H locs 0 0 (MQ below (QiX false D true cA ad r M) args s 0 0 (AX true ad)) (F0 m 164 ls [.int y_5]) := by
                        intro H locs ls hW hl
                        have hr := hr3
                        refine lv_istore_n (lv' := [(2, .int y_5), (0, .ref (ad 224))]) hx hb dX10_total_164 rfl hl (by decide) rfl (fun ls hl => ?_)
                        refine lv_iload_n hx hb dX10_total_165 rfl (lv_at hl 0 rfl) ?_
                        refine lv_if_lt (tgt := 174) hx hb dX10_total_166 (by decide) (fun c1 => ?_) (fun c1 => ?_)
                        · have hr := br_p c1 hr
                          refine lv_ldc (v := (-2000000002 : Int32)) hx hb hown (hts _ (wm 14 rfl)) dX10_total_174 ?_
                          rw [← Option.some.inj hr]
                          exact xiret hx hb hr0 hlocks hW adR_rf dX10_total_176
                        · have hr := br_n c1 hr
                          refine lv_iload_n hx hb dX10_total_169 rfl (lv_at hl 0 rfl) ?_
                          refine lv_iconst (v := (5 : Int32)) hx hb dX10_total_170 (by decide) ?_
                          refine lv_icmp_lt (tgt := 177) hx hb dX10_total_171 (by decide) (fun c1 => ?_) (fun c1 => ?_)
                          · have hr := br_p c1 hr
                            refine lv_aload_n hx hb dX10_total_177 rfl (lv_at hl 1 rfl) ?_
                            refine g10_0 hx hb hts hi10 hown hK hW (k := 224) rfl (hts _ (wm 1 rfl)) dX10_total_178 ?_
                            refine g8_3 hx hb hts hi8 hown hK hW (k := 0) rfl (hts _ (wm 15 rfl)) dX10_total_181 ?_
                            refine lv_iload_n hx hb dX10_total_184 rfl (lv_at hl 0 rfl) ?_
                            obtain ⟨hn185, hr⟩ := chk_e hr
                            refine xiald hx hb hK hW (k := 13) (t := 21) rfl (by decide) (by decide) rfl (n := 5) hn185 (jx := (ix y_5)) rfl dX10_total_185 ?_
                            rw [← Option.some.inj hr]
                            exact xiret hx hb hr0 hlocks hW adR_rf dX10_total_186
                          · have hr := br_n c1 hr
                            refine lv_ldc (v := (-2000000002 : Int32)) hx hb hown (hts _ (wm 14 rfl)) dX10_total_174 ?_
                            rw [← Option.some.inj hr]
                            exact xiret hx hb hr0 hlocks hW adR_rf dX10_total_176
                      clear hr3
                      refine lv_if_eq (tgt := 163) hx hb dX10_total_153 (by decide) (fun c1 => ?_) (fun c1 => ?_)
                      · have hr := br_p c1 hr
                        refine lv_iconst (v := (-1 : Int32)) hx hb dX10_total_163 (by decide) ?_
                        have e1 := Option.some.inj hr
                        subst e1
                        exact hj164_5 _ _ _ hW (lv_sub hl [0] rfl)
                      · have hr := br_n c1 hr
                        refine lv_iload_n hx hb dX10_total_156 rfl (lv_at hl 1 rfl) ?_
                        refine lv_bipush (v := (10 : Int32)) hx hb dX10_total_157 (by decide) ?_
                        refine lv_isub hx hb dX10_total_159 ?_
                        refine lv_goto (tgt := 164) hx hb dX10_total_160 (by decide) ?_
                        have e1 := Option.some.inj hr
                        subst e1
                        exact hj164_5 _ _ _ hW (lv_sub hl [0] rfl)

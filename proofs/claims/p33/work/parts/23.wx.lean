set_option maxHeartbeats 4000000 in
set_option maxRecDepth 100000 in
theorem c_X6_isMeasured (l : Launch) (D : va_G) (cA : Nat → ClassId) (ad : Nat → Nat) (M : Mm) (x1 : Int32) {r : Int32} (hr : f_X6_isMeasured x1 M = some r) : Met l yX6_isMeasured wsX6_isMeasured ({ frames := 0, cells := 0, slots := 0, locals := 0 }) (PcX D true cA ad M [.ref (ad 14), .int x1]) (QiX false D true cA ad r M) 0 0 (AX true ad) := by
  refine Met.ofW (cc := cX6_isMeasured) (maxL := 2) (ret := (some .boolean)) (by decide) rfl ?_
  intro p e s m args below meth c s₁ B hml hv
  obtain ⟨hav, hP0, hK⟩ := hv
  have hx := B.exec
  have hb := B.bytes
  have hr0 := B.returns
  have hts := atoms_spec (ws := wsX6_isMeasured) B.pre
  have hown : s.vm.findClass RX6 = some m.cls := findClass_of_methodNamed B.named
  have hlocks := B.notSynchronized
  have hW := xstart hP0
  have hi5 : ∀ w ∈ wsX50, w ∈ wsX6_isMeasured := fun w h => List.mem_cons_of_mem _ (List.mem_append_right _ h)
  have hi6 : ∀ w ∈ wsX60, w ∈ wsX6_isMeasured := fun w h => List.mem_cons_of_mem _ (List.mem_append_left _ (List.mem_append_right _ h))
  have hl := lv_entry ([.ref (ad 14), .int x1]) (n := 2) (Nat.le_of_ble_eq_true rfl)
  have hef := lg_entry_eq m ([.ref (ad 14), .int x1]) 2
  rw [← hav] at hef
  rw [hef]
  clear hef
  generalize (lg_sl ([.ref (ad 14), .int x1]) ++ List.replicate (2 - (lg_sl ([.ref (ad 14), .int x1])).length) Slot.unset).toArray = ls at hl ⊢
  have hl : lv_has ls 2 [(0, .ref (ad 14)), (1, .int x1)] := hl
  clear hP0
  unfold f_X6_isMeasured at hr
  refine lv_iload_n hx hb dX6_isMeasured_0 rfl (lv_at hl 1 rfl) ?_
  refine lv_if_lt (tgt := 36) hx hb dX6_isMeasured_1 (by decide) (fun c1 => ?_) (fun c1 => ?_)
  · have hr := br_p c1 hr
    refine lv_iconst (v := (0 : Int32)) hx hb dX6_isMeasured_36 (by decide) ?_
    rw [← Option.some.inj hr]
    exact xzret hx hb hr0 hlocks hW adR_rf (by decide) dX6_isMeasured_37
  · have hr := br_n c1 hr
    refine lv_iload_n hx hb dX6_isMeasured_4 rfl (lv_at hl 1 rfl) ?_
    refine lv_aload_n hx hb dX6_isMeasured_5 rfl (lv_at hl 0 rfl) ?_
    refine g6_1 hx hb hts hi6 hown hK hW (k := 14) rfl (hts _ (wm 1 rfl)) dX6_isMeasured_6 ?_
    refine lv_icmp_ge (tgt := 36) hx hb dX6_isMeasured_9 (by decide) (fun c1 => ?_) (fun c1 => ?_)
    · have hr := br_p c1 hr
      refine lv_iconst (v := (0 : Int32)) hx hb dX6_isMeasured_36 (by decide) ?_
      rw [← Option.some.inj hr]
      exact xzret hx hb hr0 hlocks hW adR_rf (by decide) dX6_isMeasured_37
    · have hr := br_n c1 hr
      refine lv_iload_n hx hb dX6_isMeasured_12 rfl (lv_at hl 1 rfl) ?_
      refine lv_bipush (v := (12 : Int32)) hx hb dX6_isMeasured_13 (by decide) ?_
      refine lv_icmp_ge (tgt := 36) hx hb dX6_isMeasured_15 (by decide) (fun c1 => ?_) (fun c1 => ?_)
      · have hr := br_p c1 hr
        refine lv_iconst (v := (0 : Int32)) hx hb dX6_isMeasured_36 (by decide) ?_
        rw [← Option.some.inj hr]
        exact xzret hx hb hr0 hlocks hW adR_rf (by decide) dX6_isMeasured_37
      · have hr := br_n c1 hr
        refine lv_aload_n hx hb dX6_isMeasured_18 rfl (lv_at hl 0 rfl) ?_
        refine g6_0 hx hb hts hi6 hown hK hW (k := 14) rfl (hts _ (wm 2 rfl)) dX6_isMeasured_19 ?_
        refine lv_iload_n hx hb dX6_isMeasured_22 rfl (lv_at hl 1 rfl) ?_
        obtain ⟨hn23, hr⟩ := chk_e hr
        refine xaald hx hb hK hW (k := 15) (t := 51) rfl (by decide) (by decide) rfl (t0 := 4) rfl hn23 dX6_isMeasured_23 ?_
        refine g5_0 hx hb hts hi5 hown hK hW (k := (rid 51 15 (ix x1))) (ks_51 (k := 15) rfl hn23) (hts _ (wm 3 rfl)) dX6_isMeasured_24 ?_
        refine lv_ldc (v := (-2000000005 : Int32)) hx hb hown (hts _ (wm 4 rfl)) dX6_isMeasured_27 ?_
        refine lv_icmp_eq (tgt := 36) hx hb dX6_isMeasured_29 (by decide) (fun c1 => ?_) (fun c1 => ?_)
        · have hr := br_p c1 hr
          refine lv_iconst (v := (0 : Int32)) hx hb dX6_isMeasured_36 (by decide) ?_
          rw [← Option.some.inj hr]
          exact xzret hx hb hr0 hlocks hW adR_rf (by decide) dX6_isMeasured_37
        · have hr := br_n c1 hr
          refine lv_iconst (v := (1 : Int32)) hx hb dX6_isMeasured_32 (by decide) ?_
          refine lv_goto (tgt := 37) hx hb dX6_isMeasured_33 (by decide) ?_
          rw [← Option.some.inj hr]
          exact xzret hx hb hr0 hlocks hW adR_rf (by decide) dX6_isMeasured_37

set_option maxHeartbeats 4000000 in
set_option maxRecDepth 100000 in
theorem c_X6_measuredCount (l : Launch) (D : va_G) (cA : Nat → ClassId) (ad : Nat → Nat) (M : Mm) {r : Int32} (hr : f_X6_measuredCount M = some r) : Met l yX6_measuredCount wsX6_measuredCount ({ frames := 1, cells := 0, slots := 0, locals := 21 }) (PcX D true cA ad M [.ref (ad 14)]) (QiX false D true cA ad r M) 0 0 (AX true ad) := by
  refine Met.ofW (cc := cX6_measuredCount) (maxL := 3) (ret := (some .int)) (by decide) rfl ?_
  intro p e s m args below meth c s₁ B hml hv
  obtain ⟨hav, hP0, hK⟩ := hv
  have hx := B.exec
  have hb := B.bytes
  have hr0 := B.returns
  have hts := atoms_spec (ws := wsX6_measuredCount) B.pre
  have hown : s.vm.findClass RX6 = some m.cls := findClass_of_methodNamed B.named
  have hlocks := B.notSynchronized
  have hW := xstart hP0
  have hl := lv_entry ([.ref (ad 14)]) (n := 3) (Nat.le_of_ble_eq_true rfl)
  have hef := lg_entry_eq m ([.ref (ad 14)]) 3
  rw [← hav] at hef
  rw [hef]
  clear hef
  generalize (lg_sl ([.ref (ad 14)]) ++ List.replicate (3 - (lg_sl ([.ref (ad 14)])).length) Slot.unset).toArray = ls at hl ⊢
  have hl : lv_has ls 3 [(0, .ref (ad 14))] := hl
  clear hP0
  unfold f_X6_measuredCount at hr
  refine lv_iconst (v := (0 : Int32)) hx hb dX6_measuredCount_0 (by decide) ?_
  refine lv_istore_n (lv' := [(1, .int (0 : Int32)), (0, .ref (ad 14))]) hx hb dX6_measuredCount_1 rfl hl (by decide) rfl (fun ls hl => ?_)
  refine lv_iconst (v := (0 : Int32)) hx hb dX6_measuredCount_2 (by decide) ?_
  refine lv_istore_n (lv' := [(2, .int (0 : Int32)), (1, .int (0 : Int32)), (0, .ref (ad 14))]) hx hb dX6_measuredCount_3 rfl hl (by decide) rfl (fun ls hl => ?_)
  have hL4_1 : ∀ (n : Nat) (x1_1 : Int32) (x2_2 : Int32) (H : Heap) (locs : List Loc) (ls : Array Slot) (x1_3 : Int32), Xw D true cA ad M (AX true ad) s.heap H locs → lv_has ls 3 [(0, .ref (ad 14)), (1, .int x1_1), (2, .int x2_2)] → f_X6_measuredCount_L4 M n x1_1 x2_2 = some x1_3 → (∀ (H : Heap) (locs : List Loc) (ls : Array Slot), Xw D true cA ad M (AX true ad) s.heap H locs → lv_has ls 3 [(1, .int x1_3)] → W p l e (headSpec wsX6_measuredCount { frames := 1, cells := 0, slots := 0, locals := 21 }).room s m args below meth c H locs 0 0 (MQ below (QiX false D true cA ad r M) args s 0 0 (AX true ad)) (F0 m 27 ls [])) → W p l e (headSpec wsX6_measuredCount { frames := 1, cells := 0, slots := 0, locals := 21 }).room s m args below meth c H locs 0 0 (MQ below (QiX false D true cA ad r M) args s 0 0 (AX true ad)) (F0 m 4 ls []) := by
    intro n
    induction n with
    | zero =>
      intro x1_1 x2_2 H locs ls x1_3 hW hl hr hk
      exact absurd hr (by simp [f_X6_measuredCount_L4])
    | succ n ih =>
      intro x1_1 x2_2 H locs ls x1_3 hW hl hr hk
      rw [f_X6_measuredCount_L4] at hr
      refine lv_iload_n hx hb dX6_measuredCount_4 rfl (lv_at hl 2 rfl) ?_
      refine lv_bipush (v := (12 : Int32)) hx hb dX6_measuredCount_5 (by decide) ?_
      refine lv_icmp_ge (tgt := 27) hx hb dX6_measuredCount_7 (by decide) (fun c1 => ?_) (fun c1 => ?_)
      · have hr := br_p c1 hr
        have e1 := Option.some.inj hr
        subst e1
        exact hk _ _ _ hW (lv_sub hl [1] rfl)
      · have hr := br_n c1 hr
        refine lv_iload_n hx hb dX6_measuredCount_10 rfl (lv_at hl 1 rfl) ?_
        refine lv_aload_n hx hb dX6_measuredCount_11 rfl (lv_at hl 0 rfl) ?_
        refine lv_iload_n hx hb dX6_measuredCount_12 rfl (lv_at hl 2 rfl) ?_
        obtain ⟨r_4, hc13, hr⟩ := ob1_e hr
        refine xk_i (va_runV (As := [.int x2_2]) (rest := [.int x1_1]) ⟨hx, hb, hml, hown, hts⟩ (c_X6_isMeasured l D cA ad M x2_2 hc13) (cwV 1 hts gX6_measuredCount_X6_isMeasured rfl rfl rfl (by decide +kernel) ⟨Nat.le_of_ble_eq_true rfl, Nat.le_of_ble_eq_true rfl⟩) (xpreV hK hW (k := 14) rfl (by decide) rfl) rfl rfl hl.1 rfl (lv_room (Nat.le_of_ble_eq_true rfl)) dX6_measuredCount_13 ⟨Nat.le_of_ble_eq_true rfl, Nat.le_of_ble_eq_true rfl⟩) hW (fun H locs hW => ?_)
        obtain ⟨r_5, hc16, hr⟩ := ob1_e hr
        refine xk_i (va_runSN (As := [.int r_4]) (rest := [.int x1_1]) ⟨hx, hb, hml, hown, hts⟩ (c_X10_asNumber l D cA ad M r_4 hc16) ⟨va_cnB 1 hts gX6_measuredCount_X10_asNumber_n40 rfl rfl rfl hK.2.2.2.2.2.2.2.2.2.2.2.2.2.2.2.2.1 (hts _ (wm 11 rfl)) (by decide +kernel) ⟨Nat.le_of_ble_eq_true rfl, Nat.le_of_ble_eq_true rfl⟩, (hts _ (wm 10 rfl)), trivial⟩ (xpreS hK hW) rfl rfl hl.1 rfl (lv_room (Nat.le_of_ble_eq_true rfl)) dX6_measuredCount_16 ⟨Nat.le_of_ble_eq_true rfl, Nat.le_of_ble_eq_true rfl⟩) hW (fun H locs hW => ?_)
        refine lv_iadd hx hb dX6_measuredCount_19 ?_
        obtain ⟨x1_6, ex1_6, hr⟩ := lt1_e hr
        rw [← ex1_6]
        refine lv_istore_n (lv' := [(1, .int x1_6), (0, .ref (ad 14)), (2, .int x2_2)]) hx hb dX6_measuredCount_20 rfl hl (by decide) rfl (fun ls hl => ?_)
        obtain ⟨x2_7, ex2_7, hr⟩ := lt1_e hr
        refine lv_iinc (v := x2_7) (lv' := [(2, .int x2_7), (1, .int x1_6), (0, .ref (ad 14))]) hx hb dX6_measuredCount_21 hl (k := 2) rfl (by rw [ex2_7]; rfl) (by decide) rfl (fun ls hl => ?_)
        refine lv_goto (tgt := 4) hx hb dX6_measuredCount_24 (by decide) ?_
        exact ih x1_6 x2_7 _ _ _ _ hW (lv_sub hl [2, 1, 0] rfl) hr hk
  obtain ⟨x1_3, hr, hr3⟩ := ob1_e hr
  refine hL4_1 1000 (0 : Int32) (0 : Int32) _ _ _ x1_3 hW (lv_sub hl [2, 1, 0] rfl) hr (fun H locs ls hW hl => ?_)
  clear hr
  have hr := hr3
  refine lv_iload_n hx hb dX6_measuredCount_27 rfl (lv_at hl 0 rfl) ?_
  rw [← Option.some.inj hr]
  exact xiret hx hb hr0 hlocks hW adR_rf dX6_measuredCount_28

set_option maxHeartbeats 4000000 in
set_option maxRecDepth 100000 in
theorem c_X6_countUpTo (l : Launch) (D : va_G) (cA : Nat → ClassId) (ad : Nat → Nat) (M : Mm) (x1 : Int32) {r : Int32} (hr : f_X6_countUpTo x1 M = some r) : Met l yX6_countUpTo wsX6_countUpTo ({ frames := 1, cells := 0, slots := 0, locals := 21 }) (PcX D true cA ad M [.ref (ad 14), .int x1]) (QiX false D true cA ad r M) 0 0 (AX true ad) := by
  refine Met.ofW (cc := cX6_countUpTo) (maxL := 4) (ret := (some .int)) (by decide) rfl ?_
  intro p e s m args below meth c s₁ B hml hv
  obtain ⟨hav, hP0, hK⟩ := hv
  have hx := B.exec
  have hb := B.bytes
  have hr0 := B.returns
  have hts := atoms_spec (ws := wsX6_countUpTo) B.pre
  have hown : s.vm.findClass RX6 = some m.cls := findClass_of_methodNamed B.named
  have hlocks := B.notSynchronized
  have hW := xstart hP0
  have hi5 : ∀ w ∈ wsX50, w ∈ wsX6_countUpTo := fun w h => List.mem_cons_of_mem _ (List.mem_append_right _ h)
  have hi6 : ∀ w ∈ wsX60, w ∈ wsX6_countUpTo := fun w h => List.mem_cons_of_mem _ (List.mem_append_left _ (List.mem_append_right _ h))
  have hl := lv_entry ([.ref (ad 14), .int x1]) (n := 4) (Nat.le_of_ble_eq_true rfl)
  have hef := lg_entry_eq m ([.ref (ad 14), .int x1]) 4
  rw [← hav] at hef
  rw [hef]
  clear hef
  generalize (lg_sl ([.ref (ad 14), .int x1]) ++ List.replicate (4 - (lg_sl ([.ref (ad 14), .int x1])).length) Slot.unset).toArray = ls at hl ⊢
  have hl : lv_has ls 4 [(0, .ref (ad 14)), (1, .int x1)] := hl
  clear hP0
  unfold f_X6_countUpTo at hr
  refine lv_iconst (v := (0 : Int32)) hx hb dX6_countUpTo_0 (by decide) ?_
  refine lv_istore_n (lv' := [(2, .int (0 : Int32)), (0, .ref (ad 14)), (1, .int x1)]) hx hb dX6_countUpTo_1 rfl hl (by decide) rfl (fun ls hl => ?_)
  refine lv_iconst (v := (0 : Int32)) hx hb dX6_countUpTo_2 (by decide) ?_
  refine lv_istore_n (lv' := [(3, .int (0 : Int32)), (2, .int (0 : Int32)), (0, .ref (ad 14)), (1, .int x1)]) hx hb dX6_countUpTo_3 rfl hl (by decide) rfl (fun ls hl => ?_)
  have hL4_1 : ∀ (n : Nat) (x2_1 : Int32) (x3_2 : Int32) (H : Heap) (locs : List Loc) (ls : Array Slot) (x2_3 : Int32), Xw D true cA ad M (AX true ad) s.heap H locs → lv_has ls 4 [(0, .ref (ad 14)), (1, .int x1), (2, .int x2_1), (3, .int x3_2)] → f_X6_countUpTo_L4 M x1 n x2_1 x3_2 = some x2_3 → (∀ (H : Heap) (locs : List Loc) (ls : Array Slot), Xw D true cA ad M (AX true ad) s.heap H locs → lv_has ls 4 [(2, .int x2_3)] → W p l e (headSpec wsX6_countUpTo { frames := 1, cells := 0, slots := 0, locals := 21 }).room s m args below meth c H locs 0 0 (MQ below (QiX false D true cA ad r M) args s 0 0 (AX true ad)) (F0 m 40 ls [])) → W p l e (headSpec wsX6_countUpTo { frames := 1, cells := 0, slots := 0, locals := 21 }).room s m args below meth c H locs 0 0 (MQ below (QiX false D true cA ad r M) args s 0 0 (AX true ad)) (F0 m 4 ls []) := by
    intro n
    induction n with
    | zero =>
      intro x2_1 x3_2 H locs ls x2_3 hW hl hr hk
      exact absurd hr (by simp [f_X6_countUpTo_L4])
    | succ n ih =>
      intro x2_1 x3_2 H locs ls x2_3 hW hl hr hk
      rw [f_X6_countUpTo_L4] at hr
      refine lv_iload_n hx hb dX6_countUpTo_4 rfl (lv_at hl 3 rfl) ?_
      refine lv_bipush (v := (12 : Int32)) hx hb dX6_countUpTo_5 (by decide) ?_
      refine lv_icmp_ge (tgt := 40) hx hb dX6_countUpTo_7 (by decide) (fun c1 => ?_) (fun c1 => ?_)
      · have hr := br_p c1 hr
        have e1 := Option.some.inj hr
        subst e1
        exact hk _ _ _ hW (lv_sub hl [2] rfl)
      · have hr := br_n c1 hr
        refine lv_aload_n hx hb dX6_countUpTo_10 rfl (lv_at hl 0 rfl) ?_
        refine lv_iload_n hx hb dX6_countUpTo_11 rfl (lv_at hl 3 rfl) ?_
        obtain ⟨r_4, hc12, hr⟩ := ob1_e hr
        refine xk_i (va_runV (As := [.int x3_2]) (rest := []) ⟨hx, hb, hml, hown, hts⟩ (c_X6_isMeasured l D cA ad M x3_2 hc12) (cwV 1 hts gX6_countUpTo_X6_isMeasured rfl rfl rfl (by decide +kernel) ⟨Nat.le_of_ble_eq_true rfl, Nat.le_of_ble_eq_true rfl⟩) (xpreV hK hW (k := 14) rfl (by decide) rfl) rfl rfl hl.1 rfl (lv_room (Nat.le_of_ble_eq_true rfl)) dX6_countUpTo_12 ⟨Nat.le_of_ble_eq_true rfl, Nat.le_of_ble_eq_true rfl⟩) hW (fun H locs hW => ?_)
        obtain ⟨x2_5, hr, hr3⟩ := ob1_e hr
        have hj34_5 : ∀ (H : Heap) (locs : List Loc) (ls : Array Slot), Xw D true cA ad M (AX true ad) s.heap H locs → lv_has ls 4 [(0, .ref (ad 14)), (1, .int x1), (3, .int x3_2), (2, .int x2_5)] → W p l e (headSpec wsX6_countUpTo { frames := 1, cells := 0, slots := 0, locals := 21 }).room s m args below meth c H locs 0 0 (MQ below (QiX false D true cA ad r M) args s 0 0 (AX true ad)) (F0 m 34 ls []) := by
          intro H locs ls hW hl
          have hr := hr3
          obtain ⟨x3_7, ex3_7, hr⟩ := lt1_e hr
          refine lv_iinc (v := x3_7) (lv' := [(3, .int x3_7), (0, .ref (ad 14)), (1, .int x1), (2, .int x2_5)]) hx hb dX6_countUpTo_34 hl (k := 2) rfl (by rw [ex3_7]; rfl) (by decide) rfl (fun ls hl => ?_)
          refine lv_goto (tgt := 4) hx hb dX6_countUpTo_37 (by decide) ?_
          exact ih x2_5 x3_7 _ _ _ _ hW (lv_sub hl [1, 2, 3, 0] rfl) hr hk
        clear hr3
        refine lv_if_eq (tgt := 34) hx hb dX6_countUpTo_15 (by decide) (fun c1 => ?_) (fun c1 => ?_)
        · have hr := br_p c1 hr
          have e1 := Option.some.inj hr
          subst e1
          exact hj34_5 _ _ _ hW (lv_sub hl [0, 1, 3, 2] rfl)
        · have hr := br_n c1 hr
          refine lv_aload_n hx hb dX6_countUpTo_18 rfl (lv_at hl 0 rfl) ?_
          refine g6_0 hx hb hts hi6 hown hK hW (k := 14) rfl (hts _ (wm 1 rfl)) dX6_countUpTo_19 ?_
          refine lv_iload_n hx hb dX6_countUpTo_22 rfl (lv_at hl 3 rfl) ?_
          obtain ⟨hn23, hr⟩ := chk_e hr
          refine xaald hx hb hK hW (k := 15) (t := 51) rfl (by decide) (by decide) rfl (t0 := 4) rfl hn23 dX6_countUpTo_23 ?_
          refine g5_0 hx hb hts hi5 hown hK hW (k := (rid 51 15 (ix x3_2))) (ks_51 (k := 15) rfl hn23) (hts _ (wm 2 rfl)) dX6_countUpTo_24 ?_
          refine lv_iload_n hx hb dX6_countUpTo_27 rfl (lv_at hl 1 rfl) ?_
          refine lv_icmp_gt (tgt := 34) hx hb dX6_countUpTo_28 (by decide) (fun c1 => ?_) (fun c1 => ?_)
          · have hr := br_p c1 hr
            have e1 := Option.some.inj hr
            subst e1
            exact hj34_5 _ _ _ hW (lv_sub hl [0, 1, 3, 2] rfl)
          · have hr := br_n c1 hr
            obtain ⟨x2_6, ex2_6, hr⟩ := lt1_e hr
            refine lv_iinc (v := x2_6) (lv' := [(2, .int x2_6), (0, .ref (ad 14)), (1, .int x1), (3, .int x3_2)]) hx hb dX6_countUpTo_31 hl (k := 2) rfl (by rw [ex2_6]; rfl) (by decide) rfl (fun ls hl => ?_)
            have e1 := Option.some.inj hr
            subst e1
            exact hj34_5 _ _ _ hW (lv_sub hl [1, 2, 3, 0] rfl)
  obtain ⟨x2_3, hr, hr3⟩ := ob1_e hr
  refine hL4_1 1000 (0 : Int32) (0 : Int32) _ _ _ x2_3 hW (lv_sub hl [2, 3, 1, 0] rfl) hr (fun H locs ls hW hl => ?_)
  clear hr
  have hr := hr3
  refine lv_iload_n hx hb dX6_countUpTo_40 rfl (lv_at hl 0 rfl) ?_
  rw [← Option.some.inj hr]
  exact xiret hx hb hr0 hlocks hW adR_rf dX6_countUpTo_41

set_option maxHeartbeats 4000000 in
set_option maxRecDepth 100000 in
theorem c_X6_ranked (l : Launch) (D : va_G) (cA : Nat → ClassId) (ad : Nat → Nat) (M : Mm) (x1 : Int32) {r : Int32} (hr : f_X6_ranked x1 M = some r) : Met l yX6_ranked wsX6_ranked ({ frames := 2, cells := 0, slots := 0, locals := 44 }) (PcX D true cA ad M [.ref (ad 14), .int x1]) (QiX false D true cA ad r M) 0 0 (AX true ad) := by
  refine Met.ofW (cc := cX6_ranked) (maxL := 4) (ret := (some .int)) (by decide) rfl ?_
  intro p e s m args below meth c s₁ B hml hv
  obtain ⟨hav, hP0, hK⟩ := hv
  have hx := B.exec
  have hb := B.bytes
  have hr0 := B.returns
  have hts := atoms_spec (ws := wsX6_ranked) B.pre
  have hown : s.vm.findClass RX6 = some m.cls := findClass_of_methodNamed B.named
  have hlocks := B.notSynchronized
  have hW := xstart hP0
  have hi5 : ∀ w ∈ wsX50, w ∈ wsX6_ranked := fun w h => List.mem_cons_of_mem _ (List.mem_append_right _ h)
  have hi6 : ∀ w ∈ wsX60, w ∈ wsX6_ranked := fun w h => List.mem_cons_of_mem _ (List.mem_append_left _ (List.mem_append_right _ h))
  have hl := lv_entry ([.ref (ad 14), .int x1]) (n := 4) (Nat.le_of_ble_eq_true rfl)
  have hef := lg_entry_eq m ([.ref (ad 14), .int x1]) 4
  rw [← hav] at hef
  rw [hef]
  clear hef
  generalize (lg_sl ([.ref (ad 14), .int x1]) ++ List.replicate (4 - (lg_sl ([.ref (ad 14), .int x1])).length) Slot.unset).toArray = ls at hl ⊢
  have hl : lv_has ls 4 [(0, .ref (ad 14)), (1, .int x1)] := hl
  clear hP0
  unfold f_X6_ranked at hr
  refine lv_iconst (v := (0 : Int32)) hx hb dX6_ranked_0 (by decide) ?_
  refine lv_istore_n (lv' := [(2, .int (0 : Int32)), (0, .ref (ad 14)), (1, .int x1)]) hx hb dX6_ranked_1 rfl hl (by decide) rfl (fun ls hl => ?_)
  have hL2_1 : ∀ (n : Nat) (x2_1 : Int32) (H : Heap) (locs : List Loc) (ls : Array Slot), Xw D true cA ad M (AX true ad) s.heap H locs → lv_has ls 4 [(0, .ref (ad 14)), (1, .int x1), (2, .int x2_1)] → f_X6_ranked_L2 M x1 n x2_1 = some r → W p l e (headSpec wsX6_ranked { frames := 2, cells := 0, slots := 0, locals := 44 }).room s m args below meth c H locs 0 0 (MQ below (QiX false D true cA ad r M) args s 0 0 (AX true ad)) (F0 m 2 ls []) := by
    intro n
    induction n with
    | zero =>
      intro x2_1 H locs ls hW hl hr
      exact absurd hr (by simp [f_X6_ranked_L2])
    | succ n ih =>
      intro x2_1 H locs ls hW hl hr
      rw [f_X6_ranked_L2] at hr
      refine lv_iload_n hx hb dX6_ranked_2 rfl (lv_at hl 2 rfl) ?_
      refine lv_bipush (v := (12 : Int32)) hx hb dX6_ranked_3 (by decide) ?_
      refine lv_icmp_ge (tgt := 54) hx hb dX6_ranked_5 (by decide) (fun c1 => ?_) (fun c1 => ?_)
      · have hr := br_p c1 hr
        refine lv_ldc (v := (-2000000005 : Int32)) hx hb hown (hts _ (wm 3 rfl)) dX6_ranked_54 ?_
        rw [← Option.some.inj hr]
        exact xiret hx hb hr0 hlocks hW adR_rf dX6_ranked_56
      · have hr := br_n c1 hr
        refine lv_aload_n hx hb dX6_ranked_8 rfl (lv_at hl 0 rfl) ?_
        refine lv_iload_n hx hb dX6_ranked_9 rfl (lv_at hl 2 rfl) ?_
        obtain ⟨r_2, hc10, hr⟩ := ob1_e hr
        refine xk_i (va_runV (As := [.int x2_1]) (rest := []) ⟨hx, hb, hml, hown, hts⟩ (c_X6_isMeasured l D cA ad M x2_1 hc10) (cwV 1 hts gX6_ranked_X6_isMeasured rfl rfl rfl (by decide +kernel) ⟨Nat.le_of_ble_eq_true rfl, Nat.le_of_ble_eq_true rfl⟩) (xpreV hK hW (k := 14) rfl (by decide) rfl) rfl rfl hl.1 rfl (lv_room (Nat.le_of_ble_eq_true rfl)) dX6_ranked_10 ⟨Nat.le_of_ble_eq_true rfl, Nat.le_of_ble_eq_true rfl⟩) hW (fun H locs hW => ?_)
        refine lv_if_eq (tgt := 48) hx hb dX6_ranked_13 (by decide) (fun c1 => ?_) (fun c1 => ?_)
        · have hr := br_p c1 hr
          obtain ⟨x2_3, ex2_3, hr⟩ := lt1_e hr
          refine lv_iinc (v := x2_3) (lv' := [(2, .int x2_3), (0, .ref (ad 14)), (1, .int x1)]) hx hb dX6_ranked_48 hl (k := 2) rfl (by rw [ex2_3]; rfl) (by decide) rfl (fun ls hl => ?_)
          refine lv_goto (tgt := 2) hx hb dX6_ranked_51 (by decide) ?_
          exact ih x2_3 _ _ _ hW (lv_sub hl [1, 2, 0] rfl) hr
        · have hr := br_n c1 hr
          refine lv_aload_n hx hb dX6_ranked_16 rfl (lv_at hl 0 rfl) ?_
          refine g6_0 hx hb hts hi6 hown hK hW (k := 14) rfl (hts _ (wm 1 rfl)) dX6_ranked_17 ?_
          refine lv_iload_n hx hb dX6_ranked_20 rfl (lv_at hl 2 rfl) ?_
          obtain ⟨hn21, hr⟩ := chk_e hr
          refine xaald hx hb hK hW (k := 15) (t := 51) rfl (by decide) (by decide) rfl (t0 := 4) rfl hn21 dX6_ranked_21 ?_
          refine g5_0 hx hb hts hi5 hown hK hW (k := (rid 51 15 (ix x2_1))) (ks_51 (k := 15) rfl hn21) (hts _ (wm 2 rfl)) dX6_ranked_22 ?_
          obtain ⟨x3_4, ex3_4, hr⟩ := lt1_e hr
          rw [← ex3_4]
          refine lv_istore_n (lv' := [(3, .int x3_4), (0, .ref (ad 14)), (1, .int x1), (2, .int x2_1)]) hx hb dX6_ranked_25 rfl hl (by decide) rfl (fun ls hl => ?_)
          refine lv_aload_n hx hb dX6_ranked_26 rfl (lv_at hl 1 rfl) ?_
          refine lv_iload_n hx hb dX6_ranked_27 rfl (lv_at hl 0 rfl) ?_
          refine lv_iconst (v := (1 : Int32)) hx hb dX6_ranked_28 (by decide) ?_
          refine lv_isub hx hb dX6_ranked_29 ?_
          obtain ⟨r_5, hc30, hr⟩ := ob1_e hr
          refine xk_i (va_runV (As := [.int (x3_4 - (1 : Int32))]) (rest := []) ⟨hx, hb, hml, hown, hts⟩ (c_X6_countUpTo l D cA ad M (x3_4 - (1 : Int32)) hc30) (cwV 1 hts gX6_ranked_X6_countUpTo rfl rfl rfl (by decide +kernel) ⟨Nat.le_of_ble_eq_true rfl, Nat.le_of_ble_eq_true rfl⟩) (xpreV hK hW (k := 14) rfl (by decide) rfl) rfl rfl hl.1 rfl (lv_room (Nat.le_of_ble_eq_true rfl)) dX6_ranked_30 ⟨Nat.le_of_ble_eq_true rfl, Nat.le_of_ble_eq_true rfl⟩) hW (fun H locs hW => ?_)
          refine lv_iload_n hx hb dX6_ranked_33 rfl (lv_at hl 2 rfl) ?_
          refine lv_icmp_gt (tgt := 48) hx hb dX6_ranked_34 (by decide) (fun c1 => ?_) (fun c1 => ?_)
          · have hr := br_p c1 hr
            obtain ⟨x2_6, ex2_6, hr⟩ := lt1_e hr
            refine lv_iinc (v := x2_6) (lv' := [(2, .int x2_6), (3, .int x3_4), (0, .ref (ad 14)), (1, .int x1)]) hx hb dX6_ranked_48 hl (k := 3) rfl (by rw [ex2_6]; rfl) (by decide) rfl (fun ls hl => ?_)
            refine lv_goto (tgt := 2) hx hb dX6_ranked_51 (by decide) ?_
            exact ih x2_6 _ _ _ hW (lv_sub hl [2, 3, 0] rfl) hr
          · have hr := br_n c1 hr
            refine lv_iload_n hx hb dX6_ranked_37 rfl (lv_at hl 2 rfl) ?_
            refine lv_aload_n hx hb dX6_ranked_38 rfl (lv_at hl 1 rfl) ?_
            refine lv_iload_n hx hb dX6_ranked_39 rfl (lv_at hl 0 rfl) ?_
            obtain ⟨r_7, hc40, hr⟩ := ob1_e hr
            refine xk_i (va_runV (As := [.int x3_4]) (rest := [.int x1]) ⟨hx, hb, hml, hown, hts⟩ (c_X6_countUpTo l D cA ad M x3_4 hc40) (cwV 1 hts gX6_ranked_X6_countUpTo rfl rfl rfl (by decide +kernel) ⟨Nat.le_of_ble_eq_true rfl, Nat.le_of_ble_eq_true rfl⟩) (xpreV hK hW (k := 14) rfl (by decide) rfl) rfl rfl hl.1 rfl (lv_room (Nat.le_of_ble_eq_true rfl)) dX6_ranked_40 ⟨Nat.le_of_ble_eq_true rfl, Nat.le_of_ble_eq_true rfl⟩) hW (fun H locs hW => ?_)
            refine lv_icmp_ge (tgt := 48) hx hb dX6_ranked_43 (by decide) (fun c1 => ?_) (fun c1 => ?_)
            · have hr := br_p c1 hr
              obtain ⟨x2_8, ex2_8, hr⟩ := lt1_e hr
              refine lv_iinc (v := x2_8) (lv' := [(2, .int x2_8), (3, .int x3_4), (0, .ref (ad 14)), (1, .int x1)]) hx hb dX6_ranked_48 hl (k := 3) rfl (by rw [ex2_8]; rfl) (by decide) rfl (fun ls hl => ?_)
              refine lv_goto (tgt := 2) hx hb dX6_ranked_51 (by decide) ?_
              exact ih x2_8 _ _ _ hW (lv_sub hl [2, 3, 0] rfl) hr
            · have hr := br_n c1 hr
              refine lv_iload_n hx hb dX6_ranked_46 rfl (lv_at hl 0 rfl) ?_
              rw [← Option.some.inj hr]
              exact xiret hx hb hr0 hlocks hW adR_rf dX6_ranked_47
  exact hL2_1 1000 (0 : Int32) _ _ _ hW (lv_sub hl [1, 2, 0] rfl) hr

set_option maxHeartbeats 4000000 in
set_option maxRecDepth 100000 in
theorem c_X6_average (l : Launch) (D : va_G) (cA : Nat → ClassId) (ad : Nat → Nat) (M : Mm) {r : Int32} (hr : f_X6_average M = some r) : Met l yX6_average wsX6_average ({ frames := 2, cells := 0, slots := 0, locals := 43 }) (PcX D true cA ad M [.ref (ad 14)]) (QiX false D true cA ad r M) 0 0 (AX true ad) := by
  refine Met.ofW (cc := cX6_average) (maxL := 4) (ret := (some .int)) (by decide) rfl ?_
  intro p e s m args below meth c s₁ B hml hv
  obtain ⟨hav, hP0, hK⟩ := hv
  have hx := B.exec
  have hb := B.bytes
  have hr0 := B.returns
  have hts := atoms_spec (ws := wsX6_average) B.pre
  have hown : s.vm.findClass RX6 = some m.cls := findClass_of_methodNamed B.named
  have hlocks := B.notSynchronized
  have hW := xstart hP0
  have hi5 : ∀ w ∈ wsX50, w ∈ wsX6_average := fun w h => List.mem_cons_of_mem _ (List.mem_append_right _ h)
  have hi6 : ∀ w ∈ wsX60, w ∈ wsX6_average := fun w h => List.mem_cons_of_mem _ (List.mem_append_left _ (List.mem_append_right _ h))
  have hl := lv_entry ([.ref (ad 14)]) (n := 4) (Nat.le_of_ble_eq_true rfl)
  have hef := lg_entry_eq m ([.ref (ad 14)]) 4
  rw [← hav] at hef
  rw [hef]
  clear hef
  generalize (lg_sl ([.ref (ad 14)]) ++ List.replicate (4 - (lg_sl ([.ref (ad 14)])).length) Slot.unset).toArray = ls at hl ⊢
  have hl : lv_has ls 4 [(0, .ref (ad 14))] := hl
  clear hP0
  unfold f_X6_average at hr
  refine lv_lconst (v := (0 : Int64)) hx hb dX6_average_0 (by decide) ?_
  refine lv_lstore_n (lv' := [(1, .long (0 : Int64)), (0, .ref (ad 14))]) hx hb dX6_average_1 rfl hl (by decide) rfl (fun ls hl => ?_)
  refine lv_iconst (v := (0 : Int32)) hx hb dX6_average_2 (by decide) ?_
  refine lv_istore_n (lv' := [(3, .int (0 : Int32)), (1, .long (0 : Int64)), (0, .ref (ad 14))]) hx hb dX6_average_3 rfl hl (by decide) rfl (fun ls hl => ?_)
  have hL4_1 : ∀ (n : Nat) (x1_1 : Int64) (x3_2 : Int32) (H : Heap) (locs : List Loc) (ls : Array Slot) (x1_3 : Int64), Xw D true cA ad M (AX true ad) s.heap H locs → lv_has ls 4 [(0, .ref (ad 14)), (1, .long x1_1), (3, .int x3_2)] → f_X6_average_L4 M n x1_1 x3_2 = some x1_3 → (∀ (H : Heap) (locs : List Loc) (ls : Array Slot), Xw D true cA ad M (AX true ad) s.heap H locs → lv_has ls 4 [(0, .ref (ad 14)), (1, .long x1_3)] → W p l e (headSpec wsX6_average { frames := 2, cells := 0, slots := 0, locals := 43 }).room s m args below meth c H locs 0 0 (MQ below (QiX false D true cA ad r M) args s 0 0 (AX true ad)) (F0 m 37 ls [])) → W p l e (headSpec wsX6_average { frames := 2, cells := 0, slots := 0, locals := 43 }).room s m args below meth c H locs 0 0 (MQ below (QiX false D true cA ad r M) args s 0 0 (AX true ad)) (F0 m 4 ls []) := by
    intro n
    induction n with
    | zero =>
      intro x1_1 x3_2 H locs ls x1_3 hW hl hr hk
      exact absurd hr (by simp [f_X6_average_L4])
    | succ n ih =>
      intro x1_1 x3_2 H locs ls x1_3 hW hl hr hk
      rw [f_X6_average_L4] at hr
      refine lv_iload_n hx hb dX6_average_4 rfl (lv_at hl 2 rfl) ?_
      refine lv_bipush (v := (12 : Int32)) hx hb dX6_average_5 (by decide) ?_
      refine lv_icmp_ge (tgt := 37) hx hb dX6_average_7 (by decide) (fun c1 => ?_) (fun c1 => ?_)
      · have hr := br_p c1 hr
        have e1 := Option.some.inj hr
        subst e1
        exact hk _ _ _ hW (lv_sub hl [0, 1] rfl)
      · have hr := br_n c1 hr
        refine lv_aload_n hx hb dX6_average_10 rfl (lv_at hl 0 rfl) ?_
        refine lv_iload_n hx hb dX6_average_11 rfl (lv_at hl 2 rfl) ?_
        obtain ⟨r_4, hc12, hr⟩ := ob1_e hr
        refine xk_i (va_runV (As := [.int x3_2]) (rest := []) ⟨hx, hb, hml, hown, hts⟩ (c_X6_isMeasured l D cA ad M x3_2 hc12) (cwV 1 hts gX6_average_X6_isMeasured rfl rfl rfl (by decide +kernel) ⟨Nat.le_of_ble_eq_true rfl, Nat.le_of_ble_eq_true rfl⟩) (xpreV hK hW (k := 14) rfl (by decide) rfl) rfl rfl hl.1 rfl (lv_room (Nat.le_of_ble_eq_true rfl)) dX6_average_12 ⟨Nat.le_of_ble_eq_true rfl, Nat.le_of_ble_eq_true rfl⟩) hW (fun H locs hW => ?_)
        obtain ⟨x1_5, hr, hr3⟩ := ob1_e hr
        have hj31_5 : ∀ (H : Heap) (locs : List Loc) (ls : Array Slot), Xw D true cA ad M (AX true ad) s.heap H locs → lv_has ls 4 [(0, .ref (ad 14)), (3, .int x3_2), (1, .long x1_5)] → W p l e (headSpec wsX6_average { frames := 2, cells := 0, slots := 0, locals := 43 }).room s m args below meth c H locs 0 0 (MQ below (QiX false D true cA ad r M) args s 0 0 (AX true ad)) (F0 m 31 ls []) := by
          intro H locs ls hW hl
          have hr := hr3
          obtain ⟨x3_7, ex3_7, hr⟩ := lt1_e hr
          refine lv_iinc (v := x3_7) (lv' := [(3, .int x3_7), (0, .ref (ad 14)), (1, .long x1_5)]) hx hb dX6_average_31 hl (k := 1) rfl (by rw [ex3_7]; rfl) (by decide) rfl (fun ls hl => ?_)
          refine lv_goto (tgt := 4) hx hb dX6_average_34 (by decide) ?_
          exact ih x1_5 x3_7 _ _ _ _ hW (lv_sub hl [1, 2, 0] rfl) hr hk
        clear hr3
        refine lv_if_eq (tgt := 31) hx hb dX6_average_15 (by decide) (fun c1 => ?_) (fun c1 => ?_)
        · have hr := br_p c1 hr
          have e1 := Option.some.inj hr
          subst e1
          exact hj31_5 _ _ _ hW (lv_sub hl [0, 2, 1] rfl)
        · have hr := br_n c1 hr
          refine lv_lload_n hx hb dX6_average_18 rfl (lv_at hl 1 rfl) ?_
          refine lv_aload_n hx hb dX6_average_19 rfl (lv_at hl 0 rfl) ?_
          refine g6_0 hx hb hts hi6 hown hK hW (k := 14) rfl (hts _ (wm 1 rfl)) dX6_average_20 ?_
          refine lv_iload_n hx hb dX6_average_23 rfl (lv_at hl 2 rfl) ?_
          obtain ⟨hn24, hr⟩ := chk_e hr
          refine xaald hx hb hK hW (k := 15) (t := 51) rfl (by decide) (by decide) rfl (t0 := 4) rfl hn24 dX6_average_24 ?_
          refine g5_0 hx hb hts hi5 hown hK hW (k := (rid 51 15 (ix x3_2))) (ks_51 (k := 15) rfl hn24) (hts _ (wm 2 rfl)) dX6_average_25 ?_
          refine lv_i2l hx hb dX6_average_28 rfl ?_
          refine lv_ladd hx hb dX6_average_29 ?_
          obtain ⟨x1_6, ex1_6, hr⟩ := lt1_e hr
          rw [← ex1_6]
          refine lv_lstore_n (lv' := [(1, .long x1_6), (0, .ref (ad 14)), (3, .int x3_2)]) hx hb dX6_average_30 rfl hl (by decide) rfl (fun ls hl => ?_)
          have e1 := Option.some.inj hr
          subst e1
          exact hj31_5 _ _ _ hW (lv_sub hl [1, 2, 0] rfl)
  obtain ⟨x1_3, hr, hr3⟩ := ob1_e hr
  refine hL4_1 1000 (0 : Int64) (0 : Int32) _ _ _ x1_3 hW (lv_sub hl [2, 1, 0] rfl) hr (fun H locs ls hW hl => ?_)
  clear hr
  have hr := hr3
  refine lv_lload_n hx hb dX6_average_37 rfl (lv_at hl 1 rfl) ?_
  refine lv_aload_n hx hb dX6_average_38 rfl (lv_at hl 0 rfl) ?_
  obtain ⟨r_8, hc39, hr⟩ := ob1_e hr
  refine xk_i (va_runV (As := []) (rest := [.long x1_3]) ⟨hx, hb, hml, hown, hts⟩ (c_X6_measuredCount l D cA ad M hc39) (cwV 0 hts gX6_average_X6_measuredCount rfl rfl rfl (by decide +kernel) ⟨Nat.le_of_ble_eq_true rfl, Nat.le_of_ble_eq_true rfl⟩) (xpreV hK hW (k := 14) rfl (by decide) rfl) rfl rfl hl.1 rfl (lv_room (Nat.le_of_ble_eq_true rfl)) dX6_average_39 ⟨Nat.le_of_ble_eq_true rfl, Nat.le_of_ble_eq_true rfl⟩) hW (fun H locs hW => ?_)
  refine lv_i2l hx hb dX6_average_42 rfl ?_
  obtain ⟨r_9, hc43, hr⟩ := ob1_e hr
  refine xk_l (va_runSN (As := [.long x1_3, .long (Int32.toInt64 r_8)]) (rest := []) ⟨hx, hb, hml, hown, hts⟩ (c_X10_quotient l D cA ad M x1_3 (Int32.toInt64 r_8) hc43) ⟨va_cnB 2 hts gX6_average_X10_quotient_n52 rfl rfl rfl hK.2.2.2.2.2.2.2.2.2.2.2.2.2.2.2.2.2.1 (hts _ (wm 15 rfl)) (by decide +kernel) ⟨Nat.le_of_ble_eq_true rfl, Nat.le_of_ble_eq_true rfl⟩, (hts _ (wm 17 rfl)), trivial⟩ (xpreS hK hW) rfl rfl hl.1 rfl (lv_room (Nat.le_of_ble_eq_true rfl)) dX6_average_43 ⟨Nat.le_of_ble_eq_true rfl, Nat.le_of_ble_eq_true rfl⟩) hW (fun H locs hW => ?_)
  refine lv_l2i hx hb dX6_average_46 rfl ?_
  rw [← Option.some.inj hr]
  exact xiret hx hb hr0 hlocks hW adR_rf dX6_average_47

set_option maxHeartbeats 4000000 in
set_option maxRecDepth 100000 in
theorem c_X8_pathAt (l : Launch) (D : va_G) (cA : Nat → ClassId) (ad : Nat → Nat) (M : Mm) (x1 : Int32) {r : Option Nat} (hr : f_X8_pathAt x1 M = some r) : Met l yX8_pathAt wsX8_pathAt ({ frames := 0, cells := 0, slots := 0, locals := 0 }) (PcX D true cA ad M [.ref (ad 0), .int x1]) (QqX false D true cA ad r M) 0 0 (AX true ad) := by
  refine Met.ofW (cc := cX8_pathAt) (maxL := 2) (ret := (some (.object "TransitMeter$Path"))) (by decide) rfl ?_
  intro p e s m args below meth c s₁ B hml hv
  obtain ⟨hav, hP0, hK⟩ := hv
  have hx := B.exec
  have hb := B.bytes
  have hr0 := B.returns
  have hts := atoms_spec (ws := wsX8_pathAt) B.pre
  have hown : s.vm.findClass RX8 = some m.cls := findClass_of_methodNamed B.named
  have hlocks := B.notSynchronized
  have hW := xstart hP0
  have hi8 : ∀ w ∈ wsX80, w ∈ wsX8_pathAt := fun w h => List.mem_cons_of_mem _ (List.mem_append_right _ h)
  have hl := lv_entry ([.ref (ad 0), .int x1]) (n := 2) (Nat.le_of_ble_eq_true rfl)
  have hef := lg_entry_eq m ([.ref (ad 0), .int x1]) 2
  rw [← hav] at hef
  rw [hef]
  clear hef
  generalize (lg_sl ([.ref (ad 0), .int x1]) ++ List.replicate (2 - (lg_sl ([.ref (ad 0), .int x1])).length) Slot.unset).toArray = ls at hl ⊢
  have hl : lv_has ls 2 [(0, .ref (ad 0)), (1, .int x1)] := hl
  clear hP0
  unfold f_X8_pathAt at hr
  refine lv_iload_n hx hb dX8_pathAt_0 rfl (lv_at hl 1 rfl) ?_
  refine lv_if_lt (tgt := 26) hx hb dX8_pathAt_1 (by decide) (fun c1 => ?_) (fun c1 => ?_)
  · have hr := br_p c1 hr
    refine lv_null hx hb dX8_pathAt_26 ?_
    rw [← Option.some.inj hr]
    exact xaretN hx hb hr0 hlocks hW adR_rf dX8_pathAt_27
  · have hr := br_n c1 hr
    refine lv_iload_n hx hb dX8_pathAt_4 rfl (lv_at hl 1 rfl) ?_
    refine lv_aload_n hx hb dX8_pathAt_5 rfl (lv_at hl 0 rfl) ?_
    refine g8_1 hx hb hts hi8 hown hK hW (k := 0) rfl (hts _ (wm 1 rfl)) dX8_pathAt_6 ?_
    refine lv_icmp_ge (tgt := 26) hx hb dX8_pathAt_9 (by decide) (fun c1 => ?_) (fun c1 => ?_)
    · have hr := br_p c1 hr
      refine lv_null hx hb dX8_pathAt_26 ?_
      rw [← Option.some.inj hr]
      exact xaretN hx hb hr0 hlocks hW adR_rf dX8_pathAt_27
    · have hr := br_n c1 hr
      refine lv_iload_n hx hb dX8_pathAt_12 rfl (lv_at hl 1 rfl) ?_
      refine lv_iconst (v := (4 : Int32)) hx hb dX8_pathAt_13 (by decide) ?_
      refine lv_icmp_ge (tgt := 26) hx hb dX8_pathAt_14 (by decide) (fun c1 => ?_) (fun c1 => ?_)
      · have hr := br_p c1 hr
        refine lv_null hx hb dX8_pathAt_26 ?_
        rw [← Option.some.inj hr]
        exact xaretN hx hb hr0 hlocks hW adR_rf dX8_pathAt_27
      · have hr := br_n c1 hr
        refine lv_aload_n hx hb dX8_pathAt_17 rfl (lv_at hl 0 rfl) ?_
        refine g8_0 hx hb hts hi8 hown hK hW (k := 0) rfl (hts _ (wm 2 rfl)) dX8_pathAt_18 ?_
        refine lv_iload_n hx hb dX8_pathAt_21 rfl (lv_at hl 1 rfl) ?_
        obtain ⟨hn22, hr⟩ := chk_e hr
        refine xaald hx hb hK hW (k := 1) (t := 50) rfl (by decide) (by decide) rfl (t0 := 3) rfl hn22 dX8_pathAt_22 ?_
        refine lv_goto (tgt := 27) hx hb dX8_pathAt_23 (by decide) ?_
        rw [← Option.some.inj hr]
        exact xaret hx hb hr0 hlocks hW adR_rf dX8_pathAt_27

set_option maxHeartbeats 4000000 in
set_option maxRecDepth 100000 in
theorem c_X8_tellShot (l : Launch) (D : va_G) (cA : Nat → ClassId) (ad : Nat → Nat) (M : Mm) (x1 : Int32) (x2 : Int32) (x3 : Int32) (x4 : Int32) {M' : Mm} (hr : f_X8_tellShot x1 x2 x3 x4 M = some M') : Met l yX8_tellShot wsX8_tellShot ({ frames := 1, cells := 0, slots := 0, locals := 21 }) (PcX D true cA ad M [.ref (ad 0), .int x1, .int x2, .int x3, .int x4]) (QvX false D true cA ad M') 0 0 (AX true ad) := by
  refine Met.ofW (cc := cX8_tellShot) (maxL := 7) (ret := none) (by decide) rfl ?_
  intro p e s m args below meth c s₁ B hml hv
  obtain ⟨hav, hP0, hK⟩ := hv
  have hx := B.exec
  have hb := B.bytes
  have hr0 := B.returns
  have hts := atoms_spec (ws := wsX8_tellShot) B.pre
  have hown : s.vm.findClass RX8 = some m.cls := findClass_of_methodNamed B.named
  have hlocks := B.notSynchronized
  have hW := xstart hP0
  have hi3 : ∀ w ∈ wsX30, w ∈ wsX8_tellShot := fun w h => List.mem_cons_of_mem _ (List.mem_append_left _ (List.mem_append_left _ (List.mem_append_right _ h)))
  have hi7 : ∀ w ∈ wsX70, w ∈ wsX8_tellShot := fun w h => List.mem_cons_of_mem _ (List.mem_append_left _ (List.mem_append_right _ h))
  have hi8 : ∀ w ∈ wsX80, w ∈ wsX8_tellShot := fun w h => List.mem_cons_of_mem _ (List.mem_append_right _ h)
  have hl := lv_entry ([.ref (ad 0), .int x1, .int x2, .int x3, .int x4]) (n := 7) (Nat.le_of_ble_eq_true rfl)
  have hef := lg_entry_eq m ([.ref (ad 0), .int x1, .int x2, .int x3, .int x4]) 7
  rw [← hav] at hef
  rw [hef]
  clear hef
  generalize (lg_sl ([.ref (ad 0), .int x1, .int x2, .int x3, .int x4]) ++ List.replicate (7 - (lg_sl ([.ref (ad 0), .int x1, .int x2, .int x3, .int x4])).length) Slot.unset).toArray = ls at hl ⊢
  have hl : lv_has ls 7 [(0, .ref (ad 0)), (1, .int x1), (2, .int x2), (3, .int x3), (4, .int x4)] := hl
  clear hP0
  unfold f_X8_tellShot at hr
  refine lv_aload_n hx hb dX8_tellShot_0 rfl (lv_at hl 0 rfl) ?_
  refine lv_iload_n hx hb dX8_tellShot_1 rfl (lv_at hl 1 rfl) ?_
  obtain ⟨r_1, hc2, hr⟩ := ob1_e hr
  refine xk_q (va_runV (As := [.int x1]) (rest := []) ⟨hx, hb, hml, hown, hts⟩ (c_X8_pathAt l D cA ad M x1 hc2) (cwV 1 hts gX8_tellShot_X8_pathAt rfl rfl rfl (by decide +kernel) ⟨Nat.le_of_ble_eq_true rfl, Nat.le_of_ble_eq_true rfl⟩) (xpreV hK hW (k := 0) rfl (by decide) rfl) rfl rfl hl.1 rfl (lv_room (Nat.le_of_ble_eq_true rfl)) dX8_tellShot_2 ⟨Nat.le_of_ble_eq_true rfl, Nat.le_of_ble_eq_true rfl⟩) hW (fun H locs hW => ?_)
  cases r_1 with
  | none =>
    have hr : _ = _ := hr
    simp only [onl] at hr
    refine lv_astoreN (lv' := [(5, .null), (0, .ref (ad 0)), (1, .int x1), (2, .int x2), (3, .int x3), (4, .int x4)]) hx hb dX8_tellShot_5 hl (by decide) rfl (fun ls hl => ?_)
    refine lv_aloadN hx hb dX8_tellShot_7 (lv_at hl 0 rfl) ?_
    refine lv_ifnonnullN hx hb dX8_tellShot_9 ?_
    rw [← Option.some.inj hr]
    exact xvret hx hb hr0 hlocks hW adR_rf dX8_tellShot_12
  | some k_2 =>
    simp only [onl] at hr
    obtain ⟨hk2, hr⟩ := chk_e hr
    have hk2 := of_decide_eq_true hk2
    refine lv_astore (lv' := [(5, .ref (ad k_2)), (0, .ref (ad 0)), (1, .int x1), (2, .int x2), (3, .int x3), (4, .int x4)]) hx hb dX8_tellShot_5 hl (by decide) rfl (fun ls hl => ?_)
    refine lv_aload hx hb dX8_tellShot_7 (lv_at hl 0 rfl) ?_
    refine lv_ifnonnull (tgt := 13) hx hb dX8_tellShot_9 (by decide) ?_
    refine lv_aload hx hb dX8_tellShot_13 (lv_at hl 0 rfl) ?_
    refine g3_15 hx hb hts hi3 hown hK hW (k := k_2) hk2 (hts _ (wm 1 rfl)) dX8_tellShot_15 ?_
    refine lv_astore (lv' := [(6, .ref (ad (k_2 + 1))), (5, .ref (ad k_2)), (0, .ref (ad 0)), (1, .int x1), (2, .int x2), (3, .int x3), (4, .int x4)]) hx hb dX8_tellShot_18 hl (by decide) rfl (fun ls hl => ?_)
    refine lv_aload hx hb dX8_tellShot_20 (lv_at hl 0 rfl) ?_
    refine lv_iconst (v := (1 : Int32)) hx hb dX8_tellShot_22 (by decide) ?_
    obtain ⟨M_3, eM_3, hr⟩ := lt1_e hr
    refine p7_0 hx hb hts hi7 hown hK hW (k := (k_2 + 1)) (ks_3s hk2) (hts _ (wm 2 rfl)) (by decide) dX8_tellShot_23 (fun H locs hW => ?_)
    rw [← eM_3] at hW
    refine lv_aload hx hb dX8_tellShot_26 (lv_at hl 0 rfl) ?_
    refine lv_aload_n hx hb dX8_tellShot_28 rfl (lv_at hl 2 rfl) ?_
    refine g8_4 hx hb hts hi8 hown hK hW (k := 0) rfl (hts _ (wm 3 rfl)) dX8_tellShot_29 ?_
    obtain ⟨y_4, hr, hr3⟩ := ob1_e hr
    have hj40_4 : ∀ (H : Heap) (locs : List Loc) (ls : Array Slot), Xw D true cA ad M_3 (AX true ad) s.heap H locs → lv_has ls 7 [(6, .ref (ad (k_2 + 1))), (0, .ref (ad 0)), (2, .int x2), (3, .int x3), (4, .int x4)] → W p l e (headSpec wsX8_tellShot { frames := 1, cells := 0, slots := 0, locals := 21 }).room s m args below meth c H locs 0 0 (MQ below (QvX false D true cA ad M') args s 0 0 (AX true ad)) (F0 m 40 ls [.int y_4, .ref (ad (k_2 + 1))]) := by
      intro H locs ls hW hl
      have hr := hr3
      obtain ⟨M_5, eM_5, hr⟩ := lt1_e hr
      refine p7_1 hx hb hts hi7 hown hK hW (k := (k_2 + 1)) (ks_3s hk2) (hts _ (wm 4 rfl)) dX8_tellShot_40 (fun H locs hW => ?_)
      rw [← eM_5] at hW
      refine lv_aload hx hb dX8_tellShot_43 (lv_at hl 0 rfl) ?_
      refine lv_aload_n hx hb dX8_tellShot_45 rfl (lv_at hl 1 rfl) ?_
      refine g8_4 hx hb hts hi8 hown hK hW (k := 0) rfl (hts _ (wm 3 rfl)) dX8_tellShot_46 ?_
      obtain ⟨y_6, hr, hr3⟩ := ob1_e hr
      have hj57_6 : ∀ (H : Heap) (locs : List Loc) (ls : Array Slot), Xw D true cA ad M_5 (AX true ad) s.heap H locs → lv_has ls 7 [(6, .ref (ad (k_2 + 1))), (4, .int x4)] → W p l e (headSpec wsX8_tellShot { frames := 1, cells := 0, slots := 0, locals := 21 }).room s m args below meth c H locs 0 0 (MQ below (QvX false D true cA ad M') args s 0 0 (AX true ad)) (F0 m 57 ls [.int y_6, .ref (ad (k_2 + 1))]) := by
        intro H locs ls hW hl
        have hr := hr3
        obtain ⟨M_7, eM_7, hr⟩ := lt1_e hr
        refine p7_2 hx hb hts hi7 hown hK hW (k := (k_2 + 1)) (ks_3s hk2) (hts _ (wm 5 rfl)) dX8_tellShot_57 (fun H locs hW => ?_)
        rw [← eM_7] at hW
        refine lv_aload hx hb dX8_tellShot_60 (lv_at hl 0 rfl) ?_
        refine lv_iload hx hb dX8_tellShot_62 (lv_at hl 1 rfl) ?_
        obtain ⟨M_8, eM_8, hr⟩ := lt1_e hr
        refine p7_3 hx hb hts hi7 hown hK hW (k := (k_2 + 1)) (ks_3s hk2) (hts _ (wm 6 rfl)) dX8_tellShot_64 (fun H locs hW => ?_)
        rw [← eM_8] at hW
        rw [← Option.some.inj hr]
        exact xvret hx hb hr0 hlocks hW adR_rf dX8_tellShot_67
      clear hr3
      refine lv_if_eq (tgt := 56) hx hb dX8_tellShot_49 (by decide) (fun c1 => ?_) (fun c1 => ?_)
      · have hr := br_p c1 hr
        refine lv_iload_n hx hb dX8_tellShot_56 rfl (lv_at hl 3 rfl) ?_
        have e1 := Option.some.inj hr
        subst e1
        exact hj57_6 _ _ _ hW (lv_sub hl [0, 4] rfl)
      · have hr := br_n c1 hr
        refine lv_iload_n hx hb dX8_tellShot_52 rfl (lv_at hl 2 rfl) ?_
        refine lv_goto (tgt := 57) hx hb dX8_tellShot_53 (by decide) ?_
        have e1 := Option.some.inj hr
        subst e1
        exact hj57_6 _ _ _ hW (lv_sub hl [0, 4] rfl)
    clear hr3
    refine lv_if_eq (tgt := 39) hx hb dX8_tellShot_32 (by decide) (fun c1 => ?_) (fun c1 => ?_)
    · have hr := br_p c1 hr
      refine lv_iload_n hx hb dX8_tellShot_39 rfl (lv_at hl 4 rfl) ?_
      have e1 := Option.some.inj hr
      subst e1
      exact hj40_4 _ _ _ hW (lv_sub hl [0, 2, 4, 5, 6] rfl)
    · have hr := br_n c1 hr
      refine lv_iload_n hx hb dX8_tellShot_35 rfl (lv_at hl 5 rfl) ?_
      refine lv_goto (tgt := 40) hx hb dX8_tellShot_36 (by decide) ?_
      have e1 := Option.some.inj hr
      subst e1
      exact hj40_4 _ _ _ hW (lv_sub hl [0, 2, 4, 5, 6] rfl)

set_option maxHeartbeats 4000000 in
set_option maxRecDepth 100000 in
theorem c_X8_exchangeTimes (l : Launch) (D : va_G) (cA : Nat → ClassId) (ad : Nat → Nat) (M : Mm) {M' : Mm} (hr : f_X8_exchangeTimes M = some M') : Met l yX8_exchangeTimes wsX8_exchangeTimes ({ frames := 2, cells := 0, slots := 0, locals := 42 }) (PcX D true cA ad M [.ref (ad 0)]) (QvX false D true cA ad M') 0 0 (AX true ad) := by
  refine Met.ofW (cc := cX8_exchangeTimes) (maxL := 5) (ret := none) (by decide) rfl ?_
  intro p e s m args below meth c s₁ B hml hv
  obtain ⟨hav, hP0, hK⟩ := hv
  have hx := B.exec
  have hb := B.bytes
  have hr0 := B.returns
  have hts := atoms_spec (ws := wsX8_exchangeTimes) B.pre
  have hown : s.vm.findClass RX8 = some m.cls := findClass_of_methodNamed B.named
  have hlocks := B.notSynchronized
  have hW := xstart hP0
  have hi8 : ∀ w ∈ wsX80, w ∈ wsX8_exchangeTimes := fun w h => List.mem_cons_of_mem _ (List.mem_append_left _ (List.mem_append_left _ (List.mem_append_right _ h)))
  have hl := lv_entry ([.ref (ad 0)]) (n := 5) (Nat.le_of_ble_eq_true rfl)
  have hef := lg_entry_eq m ([.ref (ad 0)]) 5
  rw [← hav] at hef
  rw [hef]
  clear hef
  generalize (lg_sl ([.ref (ad 0)]) ++ List.replicate (5 - (lg_sl ([.ref (ad 0)])).length) Slot.unset).toArray = ls at hl ⊢
  have hl : lv_has ls 5 [(0, .ref (ad 0))] := hl
  clear hP0
  unfold f_X8_exchangeTimes at hr
  refine lv_aload_n hx hb dX8_exchangeTimes_0 rfl (lv_at hl 0 rfl) ?_
  refine g8_0 hx hb hts hi8 hown hK hW (k := 0) rfl (hts _ (wm 1 rfl)) dX8_exchangeTimes_1 ?_
  refine lv_astore_n (lv' := [(1, .ref (ad 1)), (0, .ref (ad 0))]) hx hb dX8_exchangeTimes_4 rfl hl (by decide) rfl (fun ls hl => ?_)
  refine lv_aload_n hx hb dX8_exchangeTimes_5 rfl (lv_at hl 0 rfl) ?_
  refine xalen hx hb hK hW (k := 1) (t := 50) rfl (by decide) (by decide) (v := (4 : Int32)) rfl dX8_exchangeTimes_6 ?_
  refine lv_istore_n (lv' := [(2, .int (4 : Int32)), (1, .ref (ad 1)), (0, .ref (ad 0))]) hx hb dX8_exchangeTimes_7 rfl hl (by decide) rfl (fun ls hl => ?_)
  refine lv_iconst (v := (0 : Int32)) hx hb dX8_exchangeTimes_8 (by decide) ?_
  refine lv_istore_n (lv' := [(3, .int (0 : Int32)), (2, .int (4 : Int32)), (1, .ref (ad 1)), (0, .ref (ad 0))]) hx hb dX8_exchangeTimes_9 rfl hl (by decide) rfl (fun ls hl => ?_)
  have hL10_1 : ∀ (n : Nat) (x3_1 : Int32) (M_2 : Mm) (H : Heap) (locs : List Loc) (ls : Array Slot), Xw D true cA ad M_2 (AX true ad) s.heap H locs → lv_has ls 5 [(2, .int (4 : Int32)), (1, .ref (ad 1)), (3, .int x3_1)] → f_X8_exchangeTimes_L10 n x3_1 M_2 = some M' → W p l e (headSpec wsX8_exchangeTimes { frames := 2, cells := 0, slots := 0, locals := 42 }).room s m args below meth c H locs 0 0 (MQ below (QvX false D true cA ad M') args s 0 0 (AX true ad)) (F0 m 10 ls []) := by
    intro n
    induction n with
    | zero =>
      intro x3_1 M_2 H locs ls hW hl hr
      exact absurd hr (by simp [f_X8_exchangeTimes_L10])
    | succ n ih =>
      intro x3_1 M_2 H locs ls hW hl hr
      rw [f_X8_exchangeTimes_L10] at hr
      refine lv_iload_n hx hb dX8_exchangeTimes_10 rfl (lv_at hl 2 rfl) ?_
      refine lv_iload_n hx hb dX8_exchangeTimes_11 rfl (lv_at hl 0 rfl) ?_
      refine lv_icmp_ge (tgt := 31) hx hb dX8_exchangeTimes_12 (by decide) (fun c1 => ?_) (fun c1 => ?_)
      · have hr := br_p c1 hr
        rw [← Option.some.inj hr]
        exact xvret hx hb hr0 hlocks hW adR_rf dX8_exchangeTimes_31
      · have hr := br_n c1 hr
        refine lv_aload_n hx hb dX8_exchangeTimes_15 rfl (lv_at hl 1 rfl) ?_
        refine lv_iload_n hx hb dX8_exchangeTimes_16 rfl (lv_at hl 2 rfl) ?_
        obtain ⟨hn17, hr⟩ := chk_e hr
        refine xaald hx hb hK hW (k := 1) (t := 50) rfl (by decide) (by decide) rfl (t0 := 3) rfl hn17 dX8_exchangeTimes_17 ?_
        refine lv_astore (lv' := [(4, .ref (ad (rid 50 1 (ix x3_1)))), (2, .int (4 : Int32)), (1, .ref (ad 1)), (3, .int x3_1)]) hx hb dX8_exchangeTimes_18 hl (by decide) rfl (fun ls hl => ?_)
        refine lv_aload hx hb dX8_exchangeTimes_20 (lv_at hl 0 rfl) ?_
        obtain ⟨M_3, hc22, hr⟩ := ob1_e hr
        refine xk_v (va_runV (As := []) (rest := []) ⟨hx, hb, hml, hown, hts⟩ (c_X3_exchangeTimes l D cA ad M_2 (rid 50 1 (ix x3_1)) (ks_50 (k := 1) rfl hn17) hc22) (cwV 0 hts gX8_exchangeTimes_X3_exchangeTimes rfl rfl rfl (by decide +kernel) ⟨Nat.le_of_ble_eq_true rfl, Nat.le_of_ble_eq_true rfl⟩) (xpreV hK hW (k := (rid 50 1 (ix x3_1))) (ks_50 (k := 1) rfl hn17) (by decide) rfl) rfl rfl hl.1 rfl (lv_room (Nat.le_of_ble_eq_true rfl)) dX8_exchangeTimes_22 ⟨Nat.le_of_ble_eq_true rfl, Nat.le_of_ble_eq_true rfl⟩) hW (fun H locs hW => ?_)
        obtain ⟨x3_4, ex3_4, hr⟩ := lt1_e hr
        refine lv_iinc (v := x3_4) (lv' := [(3, .int x3_4), (4, .ref (ad (rid 50 1 (ix x3_1)))), (2, .int (4 : Int32)), (1, .ref (ad 1))]) hx hb dX8_exchangeTimes_25 hl (k := 3) rfl (by rw [ex3_4]; rfl) (by decide) rfl (fun ls hl => ?_)
        refine lv_goto (tgt := 10) hx hb dX8_exchangeTimes_28 (by decide) ?_
        exact ih x3_4 M_3 _ _ _ hW (lv_sub hl [2, 3, 0] rfl) hr
  exact hL10_1 1000 (0 : Int32) M _ _ _ hW (lv_sub hl [1, 2, 0] rfl) hr

set_option maxHeartbeats 4000000 in
set_option maxRecDepth 100000 in
theorem c_X8_toldShots (l : Launch) (D : va_G) (cA : Nat → ClassId) (ad : Nat → Nat) (M : Mm) {r : Int32} (hr : f_X8_toldShots M = some r) : Met l yX8_toldShots wsX8_toldShots ({ frames := 1, cells := 0, slots := 0, locals := 20 }) (PcX D true cA ad M [.ref (ad 0)]) (QiX false D true cA ad r M) 0 0 (AX true ad) := by
  refine Met.ofW (cc := cX8_toldShots) (maxL := 6) (ret := (some .int)) (by decide) rfl ?_
  intro p e s m args below meth c s₁ B hml hv
  obtain ⟨hav, hP0, hK⟩ := hv
  have hx := B.exec
  have hb := B.bytes
  have hr0 := B.returns
  have hts := atoms_spec (ws := wsX8_toldShots) B.pre
  have hown : s.vm.findClass RX8 = some m.cls := findClass_of_methodNamed B.named
  have hlocks := B.notSynchronized
  have hW := xstart hP0
  have hi3 : ∀ w ∈ wsX30, w ∈ wsX8_toldShots := fun w h => List.mem_cons_of_mem _ (List.mem_append_left _ (List.mem_append_right _ h))
  have hi7 : ∀ w ∈ wsX70, w ∈ wsX8_toldShots := fun w h => List.mem_cons_of_mem _ (List.mem_append_right _ h)
  have hi8 : ∀ w ∈ wsX80, w ∈ wsX8_toldShots := fun w h => List.mem_cons_of_mem _ (List.mem_append_left _ (List.mem_append_left _ (List.mem_append_right _ h)))
  have hl := lv_entry ([.ref (ad 0)]) (n := 6) (Nat.le_of_ble_eq_true rfl)
  have hef := lg_entry_eq m ([.ref (ad 0)]) 6
  rw [← hav] at hef
  rw [hef]
  clear hef
  generalize (lg_sl ([.ref (ad 0)]) ++ List.replicate (6 - (lg_sl ([.ref (ad 0)])).length) Slot.unset).toArray = ls at hl ⊢
  have hl : lv_has ls 6 [(0, .ref (ad 0))] := hl
  clear hP0
  unfold f_X8_toldShots at hr
  refine lv_iconst (v := (0 : Int32)) hx hb dX8_toldShots_0 (by decide) ?_
  refine lv_istore_n (lv' := [(1, .int (0 : Int32)), (0, .ref (ad 0))]) hx hb dX8_toldShots_1 rfl hl (by decide) rfl (fun ls hl => ?_)
  refine lv_aload_n hx hb dX8_toldShots_2 rfl (lv_at hl 1 rfl) ?_
  refine g8_0 hx hb hts hi8 hown hK hW (k := 0) rfl (hts _ (wm 1 rfl)) dX8_toldShots_3 ?_
  refine lv_astore_n (lv' := [(2, .ref (ad 1)), (1, .int (0 : Int32)), (0, .ref (ad 0))]) hx hb dX8_toldShots_6 rfl hl (by decide) rfl (fun ls hl => ?_)
  refine lv_aload_n hx hb dX8_toldShots_7 rfl (lv_at hl 0 rfl) ?_
  refine xalen hx hb hK hW (k := 1) (t := 50) rfl (by decide) (by decide) (v := (4 : Int32)) rfl dX8_toldShots_8 ?_
  refine lv_istore_n (lv' := [(3, .int (4 : Int32)), (2, .ref (ad 1)), (1, .int (0 : Int32)), (0, .ref (ad 0))]) hx hb dX8_toldShots_9 rfl hl (by decide) rfl (fun ls hl => ?_)
  refine lv_iconst (v := (0 : Int32)) hx hb dX8_toldShots_10 (by decide) ?_
  refine lv_istore (lv' := [(4, .int (0 : Int32)), (3, .int (4 : Int32)), (2, .ref (ad 1)), (1, .int (0 : Int32)), (0, .ref (ad 0))]) hx hb dX8_toldShots_11 hl (by decide) rfl (fun ls hl => ?_)
  have hL13_1 : ∀ (n : Nat) (x1_1 : Int32) (x4_2 : Int32) (H : Heap) (locs : List Loc) (ls : Array Slot) (x1_3 : Int32), Xw D true cA ad M (AX true ad) s.heap H locs → lv_has ls 6 [(3, .int (4 : Int32)), (2, .ref (ad 1)), (1, .int x1_1), (4, .int x4_2)] → f_X8_toldShots_L13 M n x1_1 x4_2 = some x1_3 → (∀ (H : Heap) (locs : List Loc) (ls : Array Slot), Xw D true cA ad M (AX true ad) s.heap H locs → lv_has ls 6 [(1, .int x1_3)] → W p l e (headSpec wsX8_toldShots { frames := 1, cells := 0, slots := 0, locals := 20 }).room s m args below meth c H locs 0 0 (MQ below (QiX false D true cA ad r M) args s 0 0 (AX true ad)) (F0 m 45 ls [])) → W p l e (headSpec wsX8_toldShots { frames := 1, cells := 0, slots := 0, locals := 20 }).room s m args below meth c H locs 0 0 (MQ below (QiX false D true cA ad r M) args s 0 0 (AX true ad)) (F0 m 13 ls []) := by
    intro n
    induction n with
    | zero =>
      intro x1_1 x4_2 H locs ls x1_3 hW hl hr hk
      exact absurd hr (by simp [f_X8_toldShots_L13])
    | succ n ih =>
      intro x1_1 x4_2 H locs ls x1_3 hW hl hr hk
      rw [f_X8_toldShots_L13] at hr
      refine lv_iload hx hb dX8_toldShots_13 (lv_at hl 3 rfl) ?_
      refine lv_iload_n hx hb dX8_toldShots_15 rfl (lv_at hl 0 rfl) ?_
      refine lv_icmp_ge (tgt := 45) hx hb dX8_toldShots_16 (by decide) (fun c1 => ?_) (fun c1 => ?_)
      · have hr := br_p c1 hr
        have e1 := Option.some.inj hr
        subst e1
        exact hk _ _ _ hW (lv_sub hl [2] rfl)
      · have hr := br_n c1 hr
        refine lv_aload_n hx hb dX8_toldShots_19 rfl (lv_at hl 1 rfl) ?_
        refine lv_iload hx hb dX8_toldShots_20 (lv_at hl 3 rfl) ?_
        obtain ⟨hn22, hr⟩ := chk_e hr
        refine xaald hx hb hK hW (k := 1) (t := 50) rfl (by decide) (by decide) rfl (t0 := 3) rfl hn22 dX8_toldShots_22 ?_
        refine lv_astore (lv' := [(5, .ref (ad (rid 50 1 (ix x4_2)))), (3, .int (4 : Int32)), (2, .ref (ad 1)), (1, .int x1_1), (4, .int x4_2)]) hx hb dX8_toldShots_23 hl (by decide) rfl (fun ls hl => ?_)
        refine lv_iload_n hx hb dX8_toldShots_25 rfl (lv_at hl 3 rfl) ?_
        refine lv_aload hx hb dX8_toldShots_26 (lv_at hl 0 rfl) ?_
        refine g3_15 hx hb hts hi3 hown hK hW (k := (rid 50 1 (ix x4_2))) (ks_50 (k := 1) rfl hn22) (hts _ (wm 2 rfl)) dX8_toldShots_28 ?_
        refine g7_0 hx hb hts hi7 hown hK hW (k := ((rid 50 1 (ix x4_2)) + 1)) (ks_3s (ks_50 (k := 1) rfl hn22)) (hts _ (wm 3 rfl)) dX8_toldShots_31 ?_
        obtain ⟨r_4, hc34, hr⟩ := ob1_e hr
        refine xk_i (va_runSN (As := [.int (gI M ((rid 50 1 (ix x4_2)) + 1) 0)]) (rest := [.int x1_1]) ⟨hx, hb, hml, hown, hts⟩ (c_X10_asNumber l D cA ad M (gI M ((rid 50 1 (ix x4_2)) + 1) 0) hc34) ⟨va_cnB 1 hts gX8_toldShots_X10_asNumber_n98 rfl rfl rfl hK.2.2.2.2.2.2.2.2.2.1 (hts _ (wm 5 rfl)) (by decide +kernel) ⟨Nat.le_of_ble_eq_true rfl, Nat.le_of_ble_eq_true rfl⟩, (hts _ (wm 4 rfl)), trivial⟩ (xpreS hK hW) rfl rfl hl.1 rfl (lv_room (Nat.le_of_ble_eq_true rfl)) dX8_toldShots_34 ⟨Nat.le_of_ble_eq_true rfl, Nat.le_of_ble_eq_true rfl⟩) hW (fun H locs hW => ?_)
        refine lv_iadd hx hb dX8_toldShots_37 ?_
        obtain ⟨x1_5, ex1_5, hr⟩ := lt1_e hr
        rw [← ex1_5]
        refine lv_istore_n (lv' := [(1, .int x1_5), (5, .ref (ad (rid 50 1 (ix x4_2)))), (3, .int (4 : Int32)), (2, .ref (ad 1)), (4, .int x4_2)]) hx hb dX8_toldShots_38 rfl hl (by decide) rfl (fun ls hl => ?_)
        obtain ⟨x4_6, ex4_6, hr⟩ := lt1_e hr
        refine lv_iinc (v := x4_6) (lv' := [(4, .int x4_6), (1, .int x1_5), (5, .ref (ad (rid 50 1 (ix x4_2)))), (3, .int (4 : Int32)), (2, .ref (ad 1))]) hx hb dX8_toldShots_39 hl (k := 4) rfl (by rw [ex4_6]; rfl) (by decide) rfl (fun ls hl => ?_)
        refine lv_goto (tgt := 13) hx hb dX8_toldShots_42 (by decide) ?_
        exact ih x1_5 x4_6 _ _ _ _ hW (lv_sub hl [3, 4, 1, 0] rfl) hr hk
  obtain ⟨x1_3, hr, hr3⟩ := ob1_e hr
  refine hL13_1 1000 (0 : Int32) (0 : Int32) _ _ _ x1_3 hW (lv_sub hl [1, 2, 3, 0] rfl) hr (fun H locs ls hW hl => ?_)
  clear hr
  have hr := hr3
  refine lv_iload_n hx hb dX8_toldShots_45 rfl (lv_at hl 0 rfl) ?_
  rw [← Option.some.inj hr]
  exact xiret hx hb hr0 hlocks hW adR_rf dX8_toldShots_46

set_option maxHeartbeats 4000000 in
set_option maxRecDepth 100000 in
theorem c_X8_failingPaths (l : Launch) (D : va_G) (cA : Nat → ClassId) (ad : Nat → Nat) (M : Mm) {r : Int32} (hr : f_X8_failingPaths M = some r) : Met l yX8_failingPaths wsX8_failingPaths ({ frames := 1, cells := 0, slots := 0, locals := 20 }) (PcX D true cA ad M [.ref (ad 0)]) (QiX false D true cA ad r M) 0 0 (AX true ad) := by
  refine Met.ofW (cc := cX8_failingPaths) (maxL := 6) (ret := (some .int)) (by decide) rfl ?_
  intro p e s m args below meth c s₁ B hml hv
  obtain ⟨hav, hP0, hK⟩ := hv
  have hx := B.exec
  have hb := B.bytes
  have hr0 := B.returns
  have hts := atoms_spec (ws := wsX8_failingPaths) B.pre
  have hown : s.vm.findClass RX8 = some m.cls := findClass_of_methodNamed B.named
  have hlocks := B.notSynchronized
  have hW := xstart hP0
  have hi8 : ∀ w ∈ wsX80, w ∈ wsX8_failingPaths := fun w h => List.mem_cons_of_mem _ (List.mem_append_left _ (List.mem_append_right _ h))
  have hl := lv_entry ([.ref (ad 0)]) (n := 6) (Nat.le_of_ble_eq_true rfl)
  have hef := lg_entry_eq m ([.ref (ad 0)]) 6
  rw [← hav] at hef
  rw [hef]
  clear hef
  generalize (lg_sl ([.ref (ad 0)]) ++ List.replicate (6 - (lg_sl ([.ref (ad 0)])).length) Slot.unset).toArray = ls at hl ⊢
  have hl : lv_has ls 6 [(0, .ref (ad 0))] := hl
  clear hP0
  unfold f_X8_failingPaths at hr
  refine lv_iconst (v := (0 : Int32)) hx hb dX8_failingPaths_0 (by decide) ?_
  refine lv_istore_n (lv' := [(1, .int (0 : Int32)), (0, .ref (ad 0))]) hx hb dX8_failingPaths_1 rfl hl (by decide) rfl (fun ls hl => ?_)
  refine lv_aload_n hx hb dX8_failingPaths_2 rfl (lv_at hl 1 rfl) ?_
  refine g8_0 hx hb hts hi8 hown hK hW (k := 0) rfl (hts _ (wm 1 rfl)) dX8_failingPaths_3 ?_
  refine lv_astore_n (lv' := [(2, .ref (ad 1)), (1, .int (0 : Int32)), (0, .ref (ad 0))]) hx hb dX8_failingPaths_6 rfl hl (by decide) rfl (fun ls hl => ?_)
  refine lv_aload_n hx hb dX8_failingPaths_7 rfl (lv_at hl 0 rfl) ?_
  refine xalen hx hb hK hW (k := 1) (t := 50) rfl (by decide) (by decide) (v := (4 : Int32)) rfl dX8_failingPaths_8 ?_
  refine lv_istore_n (lv' := [(3, .int (4 : Int32)), (2, .ref (ad 1)), (1, .int (0 : Int32)), (0, .ref (ad 0))]) hx hb dX8_failingPaths_9 rfl hl (by decide) rfl (fun ls hl => ?_)
  refine lv_iconst (v := (0 : Int32)) hx hb dX8_failingPaths_10 (by decide) ?_
  refine lv_istore (lv' := [(4, .int (0 : Int32)), (3, .int (4 : Int32)), (2, .ref (ad 1)), (1, .int (0 : Int32)), (0, .ref (ad 0))]) hx hb dX8_failingPaths_11 hl (by decide) rfl (fun ls hl => ?_)
  have hL13_1 : ∀ (n : Nat) (x1_1 : Int32) (x4_2 : Int32) (H : Heap) (locs : List Loc) (ls : Array Slot) (x1_3 : Int32), Xw D true cA ad M (AX true ad) s.heap H locs → lv_has ls 6 [(3, .int (4 : Int32)), (2, .ref (ad 1)), (1, .int x1_1), (4, .int x4_2)] → f_X8_failingPaths_L13 M n x1_1 x4_2 = some x1_3 → (∀ (H : Heap) (locs : List Loc) (ls : Array Slot), Xw D true cA ad M (AX true ad) s.heap H locs → lv_has ls 6 [(1, .int x1_3)] → W p l e (headSpec wsX8_failingPaths { frames := 1, cells := 0, slots := 0, locals := 20 }).room s m args below meth c H locs 0 0 (MQ below (QiX false D true cA ad r M) args s 0 0 (AX true ad)) (F0 m 42 ls [])) → W p l e (headSpec wsX8_failingPaths { frames := 1, cells := 0, slots := 0, locals := 20 }).room s m args below meth c H locs 0 0 (MQ below (QiX false D true cA ad r M) args s 0 0 (AX true ad)) (F0 m 13 ls []) := by
    intro n
    induction n with
    | zero =>
      intro x1_1 x4_2 H locs ls x1_3 hW hl hr hk
      exact absurd hr (by simp [f_X8_failingPaths_L13])
    | succ n ih =>
      intro x1_1 x4_2 H locs ls x1_3 hW hl hr hk
      rw [f_X8_failingPaths_L13] at hr
      refine lv_iload hx hb dX8_failingPaths_13 (lv_at hl 3 rfl) ?_
      refine lv_iload_n hx hb dX8_failingPaths_15 rfl (lv_at hl 0 rfl) ?_
      refine lv_icmp_ge (tgt := 42) hx hb dX8_failingPaths_16 (by decide) (fun c1 => ?_) (fun c1 => ?_)
      · have hr := br_p c1 hr
        have e1 := Option.some.inj hr
        subst e1
        exact hk _ _ _ hW (lv_sub hl [2] rfl)
      · have hr := br_n c1 hr
        refine lv_aload_n hx hb dX8_failingPaths_19 rfl (lv_at hl 1 rfl) ?_
        refine lv_iload hx hb dX8_failingPaths_20 (lv_at hl 3 rfl) ?_
        obtain ⟨hn22, hr⟩ := chk_e hr
        refine xaald hx hb hK hW (k := 1) (t := 50) rfl (by decide) (by decide) rfl (t0 := 3) rfl hn22 dX8_failingPaths_22 ?_
        refine lv_astore (lv' := [(5, .ref (ad (rid 50 1 (ix x4_2)))), (3, .int (4 : Int32)), (2, .ref (ad 1)), (1, .int x1_1), (4, .int x4_2)]) hx hb dX8_failingPaths_23 hl (by decide) rfl (fun ls hl => ?_)
        refine lv_iload_n hx hb dX8_failingPaths_25 rfl (lv_at hl 3 rfl) ?_
        refine lv_aload hx hb dX8_failingPaths_26 (lv_at hl 0 rfl) ?_
        obtain ⟨r_4, hc28, hr⟩ := ob1_e hr
        refine xk_i (va_runV (As := []) (rest := [.int x1_1]) ⟨hx, hb, hml, hown, hts⟩ (c_X3_fails l D cA ad M (rid 50 1 (ix x4_2)) (ks_50 (k := 1) rfl hn22) hc28) (cwV 0 hts gX8_failingPaths_X3_fails rfl rfl rfl (by decide +kernel) ⟨Nat.le_of_ble_eq_true rfl, Nat.le_of_ble_eq_true rfl⟩) (xpreV hK hW (k := (rid 50 1 (ix x4_2))) (ks_50 (k := 1) rfl hn22) (by decide) rfl) rfl rfl hl.1 rfl (lv_room (Nat.le_of_ble_eq_true rfl)) dX8_failingPaths_28 ⟨Nat.le_of_ble_eq_true rfl, Nat.le_of_ble_eq_true rfl⟩) hW (fun H locs hW => ?_)
        obtain ⟨r_5, hc31, hr⟩ := ob1_e hr
        refine xk_i (va_runSN (As := [.int r_4]) (rest := [.int x1_1]) ⟨hx, hb, hml, hown, hts⟩ (c_X10_asNumber l D cA ad M r_4 hc31) ⟨va_cnB 1 hts gX8_failingPaths_X10_asNumber_n98 rfl rfl rfl hK.2.2.2.2.2.2.2.2.2.1 (hts _ (wm 9 rfl)) (by decide +kernel) ⟨Nat.le_of_ble_eq_true rfl, Nat.le_of_ble_eq_true rfl⟩, (hts _ (wm 8 rfl)), trivial⟩ (xpreS hK hW) rfl rfl hl.1 rfl (lv_room (Nat.le_of_ble_eq_true rfl)) dX8_failingPaths_31 ⟨Nat.le_of_ble_eq_true rfl, Nat.le_of_ble_eq_true rfl⟩) hW (fun H locs hW => ?_)
        refine lv_iadd hx hb dX8_failingPaths_34 ?_
        obtain ⟨x1_6, ex1_6, hr⟩ := lt1_e hr
        rw [← ex1_6]
        refine lv_istore_n (lv' := [(1, .int x1_6), (5, .ref (ad (rid 50 1 (ix x4_2)))), (3, .int (4 : Int32)), (2, .ref (ad 1)), (4, .int x4_2)]) hx hb dX8_failingPaths_35 rfl hl (by decide) rfl (fun ls hl => ?_)
        obtain ⟨x4_7, ex4_7, hr⟩ := lt1_e hr
        refine lv_iinc (v := x4_7) (lv' := [(4, .int x4_7), (1, .int x1_6), (5, .ref (ad (rid 50 1 (ix x4_2)))), (3, .int (4 : Int32)), (2, .ref (ad 1))]) hx hb dX8_failingPaths_36 hl (k := 4) rfl (by rw [ex4_7]; rfl) (by decide) rfl (fun ls hl => ?_)
        refine lv_goto (tgt := 13) hx hb dX8_failingPaths_39 (by decide) ?_
        exact ih x1_6 x4_7 _ _ _ _ hW (lv_sub hl [3, 4, 1, 0] rfl) hr hk
  obtain ⟨x1_3, hr, hr3⟩ := ob1_e hr
  refine hL13_1 1000 (0 : Int32) (0 : Int32) _ _ _ x1_3 hW (lv_sub hl [1, 2, 3, 0] rfl) hr (fun H locs ls hW hl => ?_)
  clear hr
  have hr := hr3
  refine lv_iload_n hx hb dX8_failingPaths_42 rfl (lv_at hl 0 rfl) ?_
  rw [← Option.some.inj hr]
  exact xiret hx hb hr0 hlocks hW adR_rf dX8_failingPaths_43

set_option maxHeartbeats 4000000 in
set_option maxRecDepth 100000 in
theorem c_X8_placeInTrust (l : Launch) (D : va_G) (cA : Nat → ClassId) (ad : Nat → Nat) (M : Mm) (x1 : Int32) {r : Int32} (hr : f_X8_placeInTrust x1 M = some r) : Met l yX8_placeInTrust wsX8_placeInTrust ({ frames := 2, cells := 0, slots := 0, locals := 44 }) (PcX D true cA ad M [.ref (ad 0), .int x1]) (QiX false D true cA ad r M) 0 0 (AX true ad) := by
  refine Met.ofW (cc := cX8_placeInTrust) (maxL := 5) (ret := (some .int)) (by decide) rfl ?_
  intro p e s m args below meth c s₁ B hml hv
  obtain ⟨hav, hP0, hK⟩ := hv
  have hx := B.exec
  have hb := B.bytes
  have hr0 := B.returns
  have hts := atoms_spec (ws := wsX8_placeInTrust) B.pre
  have hown : s.vm.findClass RX8 = some m.cls := findClass_of_methodNamed B.named
  have hlocks := B.notSynchronized
  have hW := xstart hP0
  have hi8 : ∀ w ∈ wsX80, w ∈ wsX8_placeInTrust := fun w h => List.mem_cons_of_mem _ (List.mem_append_left _ (List.mem_append_right _ h))
  have hl := lv_entry ([.ref (ad 0), .int x1]) (n := 5) (Nat.le_of_ble_eq_true rfl)
  have hef := lg_entry_eq m ([.ref (ad 0), .int x1]) 5
  rw [← hav] at hef
  rw [hef]
  clear hef
  generalize (lg_sl ([.ref (ad 0), .int x1]) ++ List.replicate (5 - (lg_sl ([.ref (ad 0), .int x1])).length) Slot.unset).toArray = ls at hl ⊢
  have hl : lv_has ls 5 [(0, .ref (ad 0)), (1, .int x1)] := hl
  clear hP0
  unfold f_X8_placeInTrust at hr
  refine lv_aload_n hx hb dX8_placeInTrust_0 rfl (lv_at hl 0 rfl) ?_
  refine lv_iload_n hx hb dX8_placeInTrust_1 rfl (lv_at hl 1 rfl) ?_
  obtain ⟨r_1, hc2, hr⟩ := ob1_e hr
  refine xk_q (va_runV (As := [.int x1]) (rest := []) ⟨hx, hb, hml, hown, hts⟩ (c_X8_pathAt l D cA ad M x1 hc2) (cwV 1 hts gX8_placeInTrust_X8_pathAt rfl rfl rfl (by decide +kernel) ⟨Nat.le_of_ble_eq_true rfl, Nat.le_of_ble_eq_true rfl⟩) (xpreV hK hW (k := 0) rfl (by decide) rfl) rfl rfl hl.1 rfl (lv_room (Nat.le_of_ble_eq_true rfl)) dX8_placeInTrust_2 ⟨Nat.le_of_ble_eq_true rfl, Nat.le_of_ble_eq_true rfl⟩) hW (fun H locs hW => ?_)
  cases r_1 with
  | none =>
    have hr : _ = _ := hr
    simp only [onl] at hr
    refine lv_astore_nN (lv' := [(2, .null), (0, .ref (ad 0)), (1, .int x1)]) hx hb dX8_placeInTrust_5 rfl hl (by decide) rfl (fun ls hl => ?_)
    refine lv_iconst (v := (0 : Int32)) hx hb dX8_placeInTrust_6 (by decide) ?_
    refine lv_istore_n (lv' := [(3, .int (0 : Int32)), (2, .null), (0, .ref (ad 0)), (1, .int x1)]) hx hb dX8_placeInTrust_7 rfl hl (by decide) rfl (fun ls hl => ?_)
    refine lv_iconst (v := (0 : Int32)) hx hb dX8_placeInTrust_8 (by decide) ?_
    refine lv_istore (lv' := [(4, .int (0 : Int32)), (3, .int (0 : Int32)), (2, .null), (0, .ref (ad 0)), (1, .int x1)]) hx hb dX8_placeInTrust_9 hl (by decide) rfl (fun ls hl => ?_)
    have hL11_1 : ∀ (n : Nat) (x3_3 : Int32) (x4_4 : Int32) (H : Heap) (locs : List Loc) (ls : Array Slot) (x3_5 : Int32), Xw D true cA ad M (AX true ad) s.heap H locs → lv_has ls 5 [(2, .null), (0, .ref (ad 0)), (1, .int x1), (3, .int x3_3), (4, .int x4_4)] → f_X8_placeInTrust_L11 M n x3_3 x4_4 = some x3_5 → (∀ (H : Heap) (locs : List Loc) (ls : Array Slot), Xw D true cA ad M (AX true ad) s.heap H locs → lv_has ls 5 [(3, .int x3_5)] → W p l e (headSpec wsX8_placeInTrust { frames := 2, cells := 0, slots := 0, locals := 44 }).room s m args below meth c H locs 0 0 (MQ below (QiX false D true cA ad r M) args s 0 0 (AX true ad)) (F0 m 70 ls [])) → W p l e (headSpec wsX8_placeInTrust { frames := 2, cells := 0, slots := 0, locals := 44 }).room s m args below meth c H locs 0 0 (MQ below (QiX false D true cA ad r M) args s 0 0 (AX true ad)) (F0 m 11 ls []) := by
      intro n
      induction n with
      | zero =>
        intro x3_3 x4_4 H locs ls x3_5 hW hl hr hk
        exact absurd hr (by simp [f_X8_placeInTrust_L11])
      | succ n ih =>
        intro x3_3 x4_4 H locs ls x3_5 hW hl hr hk
        rw [f_X8_placeInTrust_L11] at hr
        refine lv_iload hx hb dX8_placeInTrust_11 (lv_at hl 4 rfl) ?_
        refine lv_iconst (v := (4 : Int32)) hx hb dX8_placeInTrust_13 (by decide) ?_
        refine lv_icmp_ge (tgt := 70) hx hb dX8_placeInTrust_14 (by decide) (fun c1 => ?_) (fun c1 => ?_)
        · have hr := br_p c1 hr
          have e1 := Option.some.inj hr
          subst e1
          exact hk _ _ _ hW (lv_sub hl [3] rfl)
        · have hr := br_n c1 hr
          refine lv_iload hx hb dX8_placeInTrust_17 (lv_at hl 4 rfl) ?_
          refine lv_aload_n hx hb dX8_placeInTrust_19 rfl (lv_at hl 1 rfl) ?_
          refine g8_1 hx hb hts hi8 hown hK hW (k := 0) rfl (hts _ (wm 1 rfl)) dX8_placeInTrust_20 ?_
          refine lv_icmp_ge (tgt := 70) hx hb dX8_placeInTrust_23 (by decide) (fun c1 => ?_) (fun c1 => ?_)
          · have hr := br_p c1 hr
            have e1 := Option.some.inj hr
            subst e1
            exact hk _ _ _ hW (lv_sub hl [3] rfl)
          · have hr := br_n c1 hr
            refine lv_aload_nN hx hb dX8_placeInTrust_26 rfl (lv_at hl 0 rfl) ?_
            refine lv_ifnullN (tgt := 70) hx hb dX8_placeInTrust_27 (by decide) ?_
            have e1 := Option.some.inj hr
            subst e1
            exact hk _ _ _ hW (lv_sub hl [3] rfl)
    obtain ⟨x3_5, hr, hr3⟩ := ob1_e hr
    refine hL11_1 1000 (0 : Int32) (0 : Int32) _ _ _ x3_5 hW (lv_sub hl [2, 3, 4, 1, 0] rfl) hr (fun H locs ls hW hl => ?_)
    clear hr
    have hr := hr3
    refine lv_iload_n hx hb dX8_placeInTrust_70 rfl (lv_at hl 0 rfl) ?_
    rw [← Option.some.inj hr]
    exact xiret hx hb hr0 hlocks hW adR_rf dX8_placeInTrust_71
  | some k_2 =>
    simp only [onl] at hr
    obtain ⟨hk2, hr⟩ := chk_e hr
    have hk2 := of_decide_eq_true hk2
    refine lv_astore_n (lv' := [(2, .ref (ad k_2)), (0, .ref (ad 0)), (1, .int x1)]) hx hb dX8_placeInTrust_5 rfl hl (by decide) rfl (fun ls hl => ?_)
    refine lv_iconst (v := (0 : Int32)) hx hb dX8_placeInTrust_6 (by decide) ?_
    refine lv_istore_n (lv' := [(3, .int (0 : Int32)), (2, .ref (ad k_2)), (0, .ref (ad 0)), (1, .int x1)]) hx hb dX8_placeInTrust_7 rfl hl (by decide) rfl (fun ls hl => ?_)
    refine lv_iconst (v := (0 : Int32)) hx hb dX8_placeInTrust_8 (by decide) ?_
    refine lv_istore (lv' := [(4, .int (0 : Int32)), (3, .int (0 : Int32)), (2, .ref (ad k_2)), (0, .ref (ad 0)), (1, .int x1)]) hx hb dX8_placeInTrust_9 hl (by decide) rfl (fun ls hl => ?_)
    have hL11_2 : ∀ (n : Nat) (x3_6 : Int32) (x4_7 : Int32) (H : Heap) (locs : List Loc) (ls : Array Slot) (x3_8 : Int32), Xw D true cA ad M (AX true ad) s.heap H locs → lv_has ls 5 [(2, .ref (ad k_2)), (0, .ref (ad 0)), (1, .int x1), (3, .int x3_6), (4, .int x4_7)] → f_X8_placeInTrust_L11_2 M x1 k_2 n x3_6 x4_7 = some x3_8 → (∀ (H : Heap) (locs : List Loc) (ls : Array Slot), Xw D true cA ad M (AX true ad) s.heap H locs → lv_has ls 5 [(3, .int x3_8)] → W p l e (headSpec wsX8_placeInTrust { frames := 2, cells := 0, slots := 0, locals := 44 }).room s m args below meth c H locs 0 0 (MQ below (QiX false D true cA ad r M) args s 0 0 (AX true ad)) (F0 m 70 ls [])) → W p l e (headSpec wsX8_placeInTrust { frames := 2, cells := 0, slots := 0, locals := 44 }).room s m args below meth c H locs 0 0 (MQ below (QiX false D true cA ad r M) args s 0 0 (AX true ad)) (F0 m 11 ls []) := by
      intro n
      induction n with
      | zero =>
        intro x3_6 x4_7 H locs ls x3_8 hW hl hr hk
        exact absurd hr (by simp [f_X8_placeInTrust_L11_2])
      | succ n ih =>
        intro x3_6 x4_7 H locs ls x3_8 hW hl hr hk
        rw [f_X8_placeInTrust_L11_2] at hr
        refine lv_iload hx hb dX8_placeInTrust_11 (lv_at hl 4 rfl) ?_
        refine lv_iconst (v := (4 : Int32)) hx hb dX8_placeInTrust_13 (by decide) ?_
        refine lv_icmp_ge (tgt := 70) hx hb dX8_placeInTrust_14 (by decide) (fun c1 => ?_) (fun c1 => ?_)
        · have hr := br_p c1 hr
          have e1 := Option.some.inj hr
          subst e1
          exact hk _ _ _ hW (lv_sub hl [3] rfl)
        · have hr := br_n c1 hr
          refine lv_iload hx hb dX8_placeInTrust_17 (lv_at hl 4 rfl) ?_
          refine lv_aload_n hx hb dX8_placeInTrust_19 rfl (lv_at hl 1 rfl) ?_
          refine g8_1 hx hb hts hi8 hown hK hW (k := 0) rfl (hts _ (wm 1 rfl)) dX8_placeInTrust_20 ?_
          refine lv_icmp_ge (tgt := 70) hx hb dX8_placeInTrust_23 (by decide) (fun c1 => ?_) (fun c1 => ?_)
          · have hr := br_p c1 hr
            have e1 := Option.some.inj hr
            subst e1
            exact hk _ _ _ hW (lv_sub hl [3] rfl)
          · have hr := br_n c1 hr
            refine lv_aload_n hx hb dX8_placeInTrust_26 rfl (lv_at hl 0 rfl) ?_
            refine lv_ifnull hx hb dX8_placeInTrust_27 ?_
            refine lv_iload hx hb dX8_placeInTrust_30 (lv_at hl 4 rfl) ?_
            refine lv_iload_n hx hb dX8_placeInTrust_32 rfl (lv_at hl 2 rfl) ?_
            obtain ⟨x3_9, hr, hr3⟩ := ob1_e hr
            have hj64_9 : ∀ (H : Heap) (locs : List Loc) (ls : Array Slot), Xw D true cA ad M (AX true ad) s.heap H locs → lv_has ls 5 [(2, .ref (ad k_2)), (0, .ref (ad 0)), (1, .int x1), (4, .int x4_7), (3, .int x3_9)] → W p l e (headSpec wsX8_placeInTrust { frames := 2, cells := 0, slots := 0, locals := 44 }).room s m args below meth c H locs 0 0 (MQ below (QiX false D true cA ad r M) args s 0 0 (AX true ad)) (F0 m 64 ls []) := by
              intro H locs ls hW hl
              have hr := hr3
              obtain ⟨x4_13, ex4_13, hr⟩ := lt1_e hr
              refine lv_iinc (v := x4_13) (lv' := [(4, .int x4_13), (2, .ref (ad k_2)), (0, .ref (ad 0)), (1, .int x1), (3, .int x3_9)]) hx hb dX8_placeInTrust_64 hl (k := 3) rfl (by rw [ex4_13]; rfl) (by decide) rfl (fun ls hl => ?_)
              refine lv_goto (tgt := 11) hx hb dX8_placeInTrust_67 (by decide) ?_
              exact ih x3_9 x4_13 _ _ _ _ hW (lv_sub hl [1, 2, 3, 4, 0] rfl) hr hk
            clear hr3
            refine lv_icmp_eq (tgt := 64) hx hb dX8_placeInTrust_33 (by decide) (fun c1 => ?_) (fun c1 => ?_)
            · have hr := br_p c1 hr
              have e1 := Option.some.inj hr
              subst e1
              exact hj64_9 _ _ _ hW (lv_sub hl [0, 1, 2, 4, 3] rfl)
            · have hr := br_n c1 hr
              refine lv_aload_n hx hb dX8_placeInTrust_36 rfl (lv_at hl 1 rfl) ?_
              refine g8_0 hx hb hts hi8 hown hK hW (k := 0) rfl (hts _ (wm 2 rfl)) dX8_placeInTrust_37 ?_
              refine lv_iload hx hb dX8_placeInTrust_40 (lv_at hl 4 rfl) ?_
              obtain ⟨hn42, hr⟩ := chk_e hr
              refine xaald hx hb hK hW (k := 1) (t := 50) rfl (by decide) (by decide) rfl (t0 := 3) rfl hn42 dX8_placeInTrust_42 ?_
              refine lv_aload_n hx hb dX8_placeInTrust_43 rfl (lv_at hl 0 rfl) ?_
              refine lv_iload hx hb dX8_placeInTrust_44 (lv_at hl 4 rfl) ?_
              refine lv_iload_n hx hb dX8_placeInTrust_46 rfl (lv_at hl 2 rfl) ?_
              obtain ⟨y_10, hr, hr3⟩ := ob1_e hr
              have hj55_10 : ∀ (H : Heap) (locs : List Loc) (ls : Array Slot), Xw D true cA ad M (AX true ad) s.heap H locs → lv_has ls 5 [(2, .ref (ad k_2)), (0, .ref (ad 0)), (1, .int x1), (3, .int x3_6), (4, .int x4_7)] → W p l e (headSpec wsX8_placeInTrust { frames := 2, cells := 0, slots := 0, locals := 44 }).room s m args below meth c H locs 0 0 (MQ below (QiX false D true cA ad r M) args s 0 0 (AX true ad)) (F0 m 55 ls [.int y_10, .ref (ad k_2), .ref (ad (rid 50 1 (ix x4_7)))]) := by
                intro H locs ls hW hl
                have hr := hr3
                obtain ⟨r_11, hc55, hr⟩ := ob1_e hr
                refine xk_i (va_runV (As := [.ref (ad k_2), .int y_10]) (rest := []) ⟨hx, hb, hml, hown, hts⟩ (c_X3_isTrustedBefore l D cA ad M (rid 50 1 (ix x4_7)) k_2 y_10 (ks_50 (k := 1) rfl hn42) hk2 hc55) (cwV 2 hts gX8_placeInTrust_X3_isTrustedBefore rfl rfl rfl (by decide +kernel) ⟨Nat.le_of_ble_eq_true rfl, Nat.le_of_ble_eq_true rfl⟩) (xpreV hK hW (k := (rid 50 1 (ix x4_7))) (ks_50 (k := 1) rfl hn42) (by decide) rfl) rfl rfl hl.1 rfl (lv_room (Nat.le_of_ble_eq_true rfl)) dX8_placeInTrust_55 ⟨Nat.le_of_ble_eq_true rfl, Nat.le_of_ble_eq_true rfl⟩) hW (fun H locs hW => ?_)
                refine lv_if_eq (tgt := 64) hx hb dX8_placeInTrust_58 (by decide) (fun c1 => ?_) (fun c1 => ?_)
                · have hr := br_p c1 hr
                  have e1 := Option.some.inj hr
                  subst e1
                  exact hj64_9 _ _ _ hW (lv_sub hl [0, 1, 2, 4, 3] rfl)
                · have hr := br_n c1 hr
                  obtain ⟨x3_12, ex3_12, hr⟩ := lt1_e hr
                  refine lv_iinc (v := x3_12) (lv' := [(3, .int x3_12), (2, .ref (ad k_2)), (0, .ref (ad 0)), (1, .int x1), (4, .int x4_7)]) hx hb dX8_placeInTrust_61 hl (k := 3) rfl (by rw [ex3_12]; rfl) (by decide) rfl (fun ls hl => ?_)
                  have e1 := Option.some.inj hr
                  subst e1
                  exact hj64_9 _ _ _ hW (lv_sub hl [1, 2, 3, 4, 0] rfl)
              clear hr3
              refine lv_icmp_ge (tgt := 54) hx hb dX8_placeInTrust_47 (by decide) (fun c1 => ?_) (fun c1 => ?_)
              · have hr := br_p c1 hr
                refine lv_iconst (v := (0 : Int32)) hx hb dX8_placeInTrust_54 (by decide) ?_
                have e1 := Option.some.inj hr
                subst e1
                exact hj55_10 _ _ _ hW (lv_sub hl [0, 1, 2, 3, 4] rfl)
              · have hr := br_n c1 hr
                refine lv_iconst (v := (1 : Int32)) hx hb dX8_placeInTrust_50 (by decide) ?_
                refine lv_goto (tgt := 55) hx hb dX8_placeInTrust_51 (by decide) ?_
                have e1 := Option.some.inj hr
                subst e1
                exact hj55_10 _ _ _ hW (lv_sub hl [0, 1, 2, 3, 4] rfl)
    obtain ⟨x3_8, hr, hr3⟩ := ob1_e hr
    refine hL11_2 1000 (0 : Int32) (0 : Int32) _ _ _ x3_8 hW (lv_sub hl [2, 3, 4, 1, 0] rfl) hr (fun H locs ls hW hl => ?_)
    clear hr
    have hr := hr3
    refine lv_iload_n hx hb dX8_placeInTrust_70 rfl (lv_at hl 0 rfl) ?_
    rw [← Option.some.inj hr]
    exact xiret hx hb hr0 hlocks hW adR_rf dX8_placeInTrust_71

set_option maxHeartbeats 4000000 in
set_option maxRecDepth 100000 in
theorem c_X10_addPath (l : Launch) (D : va_G) (cA : Nat → ClassId) (ad : Nat → Nat) (M : Mm) (x1 : Int32) (x2 : Int32) (x3 : Int32) (x4 : Int32) (x5 : Int32) {r : Int32} {M' : Mm} (hr : f_X10_addPath x1 x2 x3 x4 x5 M = some (r, M')) : Met l yX10_addPath wsX10_addPath ({ frames := 4, cells := 0, slots := 0, locals := 124 }) (PcX D true cA ad M [.ref (ad 224), .int x1, .int x2, .int x3, .int x4, .int x5]) (QiX true D true cA ad r M') 0 0 (AX true ad) := by
  refine Met.ofW (cc := cX10_addPath) (maxL := 8) (ret := (some .int)) (by decide) rfl ?_
  intro p e s m args below meth c s₁ B hml hv
  obtain ⟨hav, hP0, hK⟩ := hv
  have hx := B.exec
  have hb := B.bytes
  have hr0 := B.returns
  have hts := atoms_spec (ws := wsX10_addPath) B.pre
  have hown : s.vm.findClass RX10 = some m.cls := findClass_of_methodNamed B.named
  have hlocks := B.notSynchronized
  have hW := xstart hP0
  have hi8 : ∀ w ∈ wsX80, w ∈ wsX10_addPath := fun w h => List.mem_cons_of_mem _ (List.mem_append_left _ (List.mem_append_left _ (List.mem_append_left _ (List.mem_append_left _ (List.mem_append_left _ (List.mem_append_left _ (List.mem_append_right _ h)))))))
  have hi10 : ∀ w ∈ wsX100, w ∈ wsX10_addPath := fun w h => List.mem_cons_of_mem _ (List.mem_append_left _ (List.mem_append_left _ (List.mem_append_left _ (List.mem_append_left _ (List.mem_append_left _ (List.mem_append_left _ (List.mem_append_left _ (List.mem_append_right _ h))))))))
  have hl := lv_entry ([.ref (ad 224), .int x1, .int x2, .int x3, .int x4, .int x5]) (n := 8) (Nat.le_of_ble_eq_true rfl)
  have hef := lg_entry_eq m ([.ref (ad 224), .int x1, .int x2, .int x3, .int x4, .int x5]) 8
  rw [← hav] at hef
  rw [hef]
  clear hef
  generalize (lg_sl ([.ref (ad 224), .int x1, .int x2, .int x3, .int x4, .int x5]) ++ List.replicate (8 - (lg_sl ([.ref (ad 224), .int x1, .int x2, .int x3, .int x4, .int x5])).length) Slot.unset).toArray = ls at hl ⊢
  have hl : lv_has ls 8 [(0, .ref (ad 224)), (1, .int x1), (2, .int x2), (3, .int x3), (4, .int x4), (5, .int x5)] := hl
  clear hP0
  unfold f_X10_addPath at hr
  refine lv_iload_n hx hb dX10_addPath_0 rfl (lv_at hl 1 rfl) ?_
  refine lv_bipush (v := (50 : Int32)) hx hb dX10_addPath_1 (by decide) ?_
  refine lv_sipush (v := (2000 : Int32)) hx hb dX10_addPath_3 (by decide) ?_
  obtain ⟨r_1, hc6, hr⟩ := ob1_e hr
  refine xk_i (va_runS (As := [.int x1, .int (50 : Int32), .int (2000 : Int32)]) (rest := []) ⟨hx, hb, hml, hown, hts⟩ (c_X10_isWithin l D cA ad M x1 (50 : Int32) (2000 : Int32) hc6) (va_cwS 3 hts gX10_addPath_X10_isWithin rfl rfl rfl (by decide +kernel) ⟨Nat.le_of_ble_eq_true rfl, Nat.le_of_ble_eq_true rfl⟩) (xpreS hK hW) rfl rfl hl.1 rfl (lv_room (Nat.le_of_ble_eq_true rfl)) dX10_addPath_6 ⟨Nat.le_of_ble_eq_true rfl, Nat.le_of_ble_eq_true rfl⟩) hW (fun H locs hW => ?_)
  obtain ⟨y_2, hr, hr3⟩ := ob1_e hr
  have hj63_2 : ∀ (H : Heap) (locs : List Loc) (ls : Array Slot), Xw D true cA ad M (AX true ad) s.heap H locs → lv_has ls 8 [(0, .ref (ad 224)), (1, .int x1), (2, .int x2), (3, .int x3), (4, .int x4), (5, .int x5)] → W p l e (headSpec wsX10_addPath { frames := 4, cells := 0, slots := 0, locals := 124 }).room s m args below meth c H locs 0 0 (MQ below (QiX true D true cA ad r M') args s 0 0 (AX true ad)) (F0 m 63 ls [.int y_2]) := by
    intro H locs ls hW hl
    have hr := hr3
    refine lv_istore (lv' := [(6, .int y_2), (0, .ref (ad 224)), (1, .int x1), (2, .int x2), (3, .int x3), (4, .int x4), (5, .int x5)]) hx hb dX10_addPath_63 hl (by decide) rfl (fun ls hl => ?_)
    refine lv_iload hx hb dX10_addPath_65 (lv_at hl 0 rfl) ?_
    refine lv_if_ne (tgt := 73) hx hb dX10_addPath_67 (by decide) (fun c1 => ?_) (fun c1 => ?_)
    · have hr := br_n c1 hr
      refine lv_aload_n hx hb dX10_addPath_73 rfl (lv_at hl 1 rfl) ?_
      refine g10_0 hx hb hts hi10 hown hK hW (k := 224) rfl (hts _ (wm 2 rfl)) dX10_addPath_74 ?_
      refine g8_1 hx hb hts hi8 hown hK hW (k := 0) rfl (hts _ (wm 3 rfl)) dX10_addPath_77 ?_
      obtain ⟨x7_7, ex7_7, hr⟩ := lt1_e hr
      rw [← ex7_7]
      refine lv_istore (lv' := [(7, .int x7_7), (6, .int y_2), (0, .ref (ad 224)), (1, .int x1), (2, .int x2), (3, .int x3), (4, .int x4), (5, .int x5)]) hx hb dX10_addPath_80 hl (by decide) rfl (fun ls hl => ?_)
      refine lv_iload hx hb dX10_addPath_82 (lv_at hl 0 rfl) ?_
      refine lv_if_lt (tgt := 93) hx hb dX10_addPath_84 (by decide) (fun c1 => ?_) (fun c1 => ?_)
      · have hr := br_p c1 hr
        refine lv_ldc (v := (-2000000004 : Int32)) hx hb hown (hts _ (wm 4 rfl)) dX10_addPath_93 ?_
        obtain ⟨e1, e2⟩ := Prod.mk.inj (Option.some.inj hr)
        rw [← e1, ← e2]
        exact xiret hx hb hr0 hlocks hW adR_rf dX10_addPath_95
      · have hr := br_n c1 hr
        refine lv_iload hx hb dX10_addPath_87 (lv_at hl 0 rfl) ?_
        refine lv_iconst (v := (4 : Int32)) hx hb dX10_addPath_89 (by decide) ?_
        refine lv_icmp_lt (tgt := 96) hx hb dX10_addPath_90 (by decide) (fun c1 => ?_) (fun c1 => ?_)
        · have hr := br_p c1 hr
          refine lv_aload_n hx hb dX10_addPath_96 rfl (lv_at hl 2 rfl) ?_
          refine g10_1 hx hb hts hi10 hown hK hW (k := 224) rfl (hts _ (wm 5 rfl)) dX10_addPath_97 ?_
          refine lv_aload_n hx hb dX10_addPath_100 rfl (lv_at hl 2 rfl) ?_
          refine g10_0 hx hb hts hi10 hown hK hW (k := 224) rfl (hts _ (wm 2 rfl)) dX10_addPath_101 ?_
          obtain ⟨M_8, hc104, hr⟩ := ob1_e hr
          refine xc_v (va_runV (As := [.ref (ad 0)]) (rest := []) ⟨hx, hb, hml, hown, hts⟩ (c_X1_push l D cA ad M hc104) (cwV 1 hts gX10_addPath_X1_push rfl rfl rfl (by decide +kernel) ⟨Nat.le_of_ble_eq_true rfl, Nat.le_of_ble_eq_true rfl⟩) (xpreV hK hW (k := 225) rfl (by decide) rfl) rfl rfl hl.1 rfl (lv_room (Nat.le_of_ble_eq_true rfl)) dX10_addPath_104 ⟨Nat.le_of_ble_eq_true rfl, Nat.le_of_ble_eq_true rfl⟩) hW (fun ad_9 H locs had2 hW => ?_)
          rw [← had2.1 224 rfl] at hl
          have had := had2
          refine lv_aload_n hx hb dX10_addPath_107 rfl (lv_at hl 2 rfl) ?_
          refine g10_0 hx hb hts hi10 hown hK hW (k := 224) rfl (hts _ (wm 2 rfl)) dX10_addPath_108 ?_
          refine g8_0 hx hb hts hi8 hown hK hW (k := 0) rfl (hts _ (wm 6 rfl)) dX10_addPath_111 ?_
          refine lv_iload hx hb dX10_addPath_114 (lv_at hl 0 rfl) ?_
          obtain ⟨hn116, hr⟩ := chk_e hr
          refine xaald hx hb hK hW (k := 1) (t := 50) rfl (by decide) (by decide) rfl (t0 := 3) rfl hn116 dX10_addPath_116 ?_
          refine lv_iload_n hx hb dX10_addPath_117 rfl (lv_at hl 3 rfl) ?_
          refine lv_iload_n hx hb dX10_addPath_118 rfl (lv_at hl 4 rfl) ?_
          refine lv_iload_n hx hb dX10_addPath_119 rfl (lv_at hl 5 rfl) ?_
          refine lv_iload hx hb dX10_addPath_120 (lv_at hl 6 rfl) ?_
          refine lv_iload hx hb dX10_addPath_122 (lv_at hl 7 rfl) ?_
          obtain ⟨M_10, hc124, hr⟩ := ob1_e hr
          refine xk_v (va_runV (As := [.int x1, .int x2, .int x3, .int x4, .int x5]) (rest := []) ⟨hx, hb, hml, hown, hts⟩ (c_X3_begin l D cA ad_9 M_8 (rid 50 1 (ix x7_7)) x1 x2 x3 x4 x5 (ks_50 (k := 1) rfl hn116) hc124) (cwV 5 hts gX10_addPath_X3_begin rfl rfl rfl (by decide +kernel) ⟨Nat.le_of_ble_eq_true rfl, Nat.le_of_ble_eq_true rfl⟩) (xpreV hK hW (k := (rid 50 1 (ix x7_7))) (ks_50 (k := 1) rfl hn116) (by decide) rfl) rfl rfl hl.1 rfl (lv_room (Nat.le_of_ble_eq_true rfl)) dX10_addPath_124 ⟨Nat.le_of_ble_eq_true rfl, Nat.le_of_ble_eq_true rfl⟩) hW (fun H locs hW => ?_)
          refine lv_aload_n hx hb dX10_addPath_127 rfl (lv_at hl 2 rfl) ?_
          refine g10_0 hx hb hts hi10 hown hK hW (k := 224) rfl (hts _ (wm 2 rfl)) dX10_addPath_128 ?_
          refine lv_iload hx hb dX10_addPath_131 (lv_at hl 0 rfl) ?_
          refine lv_iconst (v := (1 : Int32)) hx hb dX10_addPath_133 (by decide) ?_
          refine lv_iadd hx hb dX10_addPath_134 ?_
          obtain ⟨M_11, eM_11, hr⟩ := lt1_e hr
          refine p8_1 hx hb hts hi8 hown hK hW (k := 0) rfl (hts _ (wm 3 rfl)) dX10_addPath_135 (fun H locs hW => ?_)
          rw [← eM_11] at hW
          refine lv_iload hx hb dX10_addPath_138 (lv_at hl 0 rfl) ?_
          obtain ⟨e1, e2⟩ := Prod.mk.inj (Option.some.inj hr)
          rw [← e1, ← e2]
          exact xiret hx hb hr0 hlocks hW had dX10_addPath_140
        · have hr := br_n c1 hr
          refine lv_ldc (v := (-2000000004 : Int32)) hx hb hown (hts _ (wm 4 rfl)) dX10_addPath_93 ?_
          obtain ⟨e1, e2⟩ := Prod.mk.inj (Option.some.inj hr)
          rw [← e1, ← e2]
          exact xiret hx hb hr0 hlocks hW adR_rf dX10_addPath_95
    · have hr := br_p c1 hr
      refine lv_ldc (v := (-2000000002 : Int32)) hx hb hown (hts _ (wm 1 rfl)) dX10_addPath_70 ?_
      obtain ⟨e1, e2⟩ := Prod.mk.inj (Option.some.inj hr)
      rw [← e1, ← e2]
      exact xiret hx hb hr0 hlocks hW adR_rf dX10_addPath_72
  clear hr3
  refine lv_if_eq (tgt := 62) hx hb dX10_addPath_9 (by decide) (fun c1 => ?_) (fun c1 => ?_)
  · have hr := br_p c1 hr
    refine lv_iconst (v := (0 : Int32)) hx hb dX10_addPath_62 (by decide) ?_
    have e1 := Option.some.inj hr
    subst e1
    exact hj63_2 _ _ _ hW (lv_sub hl [0, 1, 2, 3, 4, 5] rfl)
  · have hr := br_n c1 hr
    refine lv_iload_n hx hb dX10_addPath_12 rfl (lv_at hl 2 rfl) ?_
    refine lv_bipush (v := (10 : Int32)) hx hb dX10_addPath_13 (by decide) ?_
    refine lv_iload_n hx hb dX10_addPath_15 rfl (lv_at hl 1 rfl) ?_
    obtain ⟨r_3, hc16, hr⟩ := ob1_e hr
    refine xk_i (va_runS (As := [.int x2, .int (10 : Int32), .int x1]) (rest := []) ⟨hx, hb, hml, hown, hts⟩ (c_X10_isWithin l D cA ad M x2 (10 : Int32) x1 hc16) (va_cwS 3 hts gX10_addPath_X10_isWithin rfl rfl rfl (by decide +kernel) ⟨Nat.le_of_ble_eq_true rfl, Nat.le_of_ble_eq_true rfl⟩) (xpreS hK hW) rfl rfl hl.1 rfl (lv_room (Nat.le_of_ble_eq_true rfl)) dX10_addPath_16 ⟨Nat.le_of_ble_eq_true rfl, Nat.le_of_ble_eq_true rfl⟩) hW (fun H locs hW => ?_)
    refine lv_if_eq (tgt := 62) hx hb dX10_addPath_19 (by decide) (fun c1 => ?_) (fun c1 => ?_)
    · have hr := br_p c1 hr
      refine lv_iconst (v := (0 : Int32)) hx hb dX10_addPath_62 (by decide) ?_
      have e1 := Option.some.inj hr
      subst e1
      exact hj63_2 _ _ _ hW (lv_sub hl [0, 1, 2, 3, 4, 5] rfl)
    · have hr := br_n c1 hr
      refine lv_iload_n hx hb dX10_addPath_22 rfl (lv_at hl 3 rfl) ?_
      refine lv_iconst (v := (1 : Int32)) hx hb dX10_addPath_23 (by decide) ?_
      refine lv_sipush (v := (1000 : Int32)) hx hb dX10_addPath_24 (by decide) ?_
      obtain ⟨r_4, hc27, hr⟩ := ob1_e hr
      refine xk_i (va_runS (As := [.int x3, .int (1 : Int32), .int (1000 : Int32)]) (rest := []) ⟨hx, hb, hml, hown, hts⟩ (c_X10_isWithin l D cA ad M x3 (1 : Int32) (1000 : Int32) hc27) (va_cwS 3 hts gX10_addPath_X10_isWithin rfl rfl rfl (by decide +kernel) ⟨Nat.le_of_ble_eq_true rfl, Nat.le_of_ble_eq_true rfl⟩) (xpreS hK hW) rfl rfl hl.1 rfl (lv_room (Nat.le_of_ble_eq_true rfl)) dX10_addPath_27 ⟨Nat.le_of_ble_eq_true rfl, Nat.le_of_ble_eq_true rfl⟩) hW (fun H locs hW => ?_)
      refine lv_if_eq (tgt := 62) hx hb dX10_addPath_30 (by decide) (fun c1 => ?_) (fun c1 => ?_)
      · have hr := br_p c1 hr
        refine lv_iconst (v := (0 : Int32)) hx hb dX10_addPath_62 (by decide) ?_
        have e1 := Option.some.inj hr
        subst e1
        exact hj63_2 _ _ _ hW (lv_sub hl [0, 1, 2, 3, 4, 5] rfl)
      · have hr := br_n c1 hr
        refine lv_iload hx hb dX10_addPath_33 (lv_at hl 4 rfl) ?_
        refine lv_bipush (v := (100 : Int32)) hx hb dX10_addPath_35 (by decide) ?_
        refine lv_sipush (v := (10000 : Int32)) hx hb dX10_addPath_37 (by decide) ?_
        obtain ⟨r_5, hc40, hr⟩ := ob1_e hr
        refine xk_i (va_runS (As := [.int x4, .int (100 : Int32), .int (10000 : Int32)]) (rest := []) ⟨hx, hb, hml, hown, hts⟩ (c_X10_isWithin l D cA ad M x4 (100 : Int32) (10000 : Int32) hc40) (va_cwS 3 hts gX10_addPath_X10_isWithin rfl rfl rfl (by decide +kernel) ⟨Nat.le_of_ble_eq_true rfl, Nat.le_of_ble_eq_true rfl⟩) (xpreS hK hW) rfl rfl hl.1 rfl (lv_room (Nat.le_of_ble_eq_true rfl)) dX10_addPath_40 ⟨Nat.le_of_ble_eq_true rfl, Nat.le_of_ble_eq_true rfl⟩) hW (fun H locs hW => ?_)
        refine lv_if_eq (tgt := 62) hx hb dX10_addPath_43 (by decide) (fun c1 => ?_) (fun c1 => ?_)
        · have hr := br_p c1 hr
          refine lv_iconst (v := (0 : Int32)) hx hb dX10_addPath_62 (by decide) ?_
          have e1 := Option.some.inj hr
          subst e1
          exact hj63_2 _ _ _ hW (lv_sub hl [0, 1, 2, 3, 4, 5] rfl)
        · have hr := br_n c1 hr
          refine lv_iload hx hb dX10_addPath_46 (lv_at hl 5 rfl) ?_
          refine lv_iconst (v := (0 : Int32)) hx hb dX10_addPath_48 (by decide) ?_
          refine lv_sipush (v := (5000 : Int32)) hx hb dX10_addPath_49 (by decide) ?_
          obtain ⟨r_6, hc52, hr⟩ := ob1_e hr
          refine xk_i (va_runS (As := [.int x5, .int (0 : Int32), .int (5000 : Int32)]) (rest := []) ⟨hx, hb, hml, hown, hts⟩ (c_X10_isWithin l D cA ad M x5 (0 : Int32) (5000 : Int32) hc52) (va_cwS 3 hts gX10_addPath_X10_isWithin rfl rfl rfl (by decide +kernel) ⟨Nat.le_of_ble_eq_true rfl, Nat.le_of_ble_eq_true rfl⟩) (xpreS hK hW) rfl rfl hl.1 rfl (lv_room (Nat.le_of_ble_eq_true rfl)) dX10_addPath_52 ⟨Nat.le_of_ble_eq_true rfl, Nat.le_of_ble_eq_true rfl⟩) hW (fun H locs hW => ?_)
          refine lv_if_eq (tgt := 62) hx hb dX10_addPath_55 (by decide) (fun c1 => ?_) (fun c1 => ?_)
          · have hr := br_p c1 hr
            refine lv_iconst (v := (0 : Int32)) hx hb dX10_addPath_62 (by decide) ?_
            have e1 := Option.some.inj hr
            subst e1
            exact hj63_2 _ _ _ hW (lv_sub hl [0, 1, 2, 3, 4, 5] rfl)
          · have hr := br_n c1 hr
            refine lv_iconst (v := (1 : Int32)) hx hb dX10_addPath_58 (by decide) ?_
            refine lv_goto (tgt := 63) hx hb dX10_addPath_59 (by decide) ?_
            have e1 := Option.some.inj hr
            subst e1
            exact hj63_2 _ _ _ hW (lv_sub hl [0, 1, 2, 3, 4, 5] rfl)

set_option maxHeartbeats 4000000 in
set_option maxRecDepth 100000 in
theorem c_X10_setWeight (l : Launch) (D : va_G) (cA : Nat → ClassId) (ad : Nat → Nat) (M : Mm) (x1 : Int32) (x2 : Int32) {r : Int32} {M' : Mm} (hr : f_X10_setWeight x1 x2 M = some (r, M')) : Met l yX10_setWeight wsX10_setWeight ({ frames := 4, cells := 0, slots := 0, locals := 124 }) (PcX D true cA ad M [.ref (ad 224), .int x1, .int x2]) (QiX true D true cA ad r M') 0 0 (AX true ad) := by
  refine Met.ofW (cc := cX10_setWeight) (maxL := 5) (ret := (some .int)) (by decide) rfl ?_
  intro p e s m args below meth c s₁ B hml hv
  obtain ⟨hav, hP0, hK⟩ := hv
  have hx := B.exec
  have hb := B.bytes
  have hr0 := B.returns
  have hts := atoms_spec (ws := wsX10_setWeight) B.pre
  have hown : s.vm.findClass RX10 = some m.cls := findClass_of_methodNamed B.named
  have hlocks := B.notSynchronized
  have hW := xstart hP0
  have hi3 : ∀ w ∈ wsX30, w ∈ wsX10_setWeight := fun w h => List.mem_cons_of_mem _ (List.mem_append_left _ (List.mem_append_left _ (List.mem_append_left _ (List.mem_append_left _ (List.mem_append_left _ (List.mem_append_left _ (List.mem_append_right _ h)))))))
  have hi10 : ∀ w ∈ wsX100, w ∈ wsX10_setWeight := fun w h => List.mem_cons_of_mem _ (List.mem_append_left _ (List.mem_append_left _ (List.mem_append_left _ (List.mem_append_left _ (List.mem_append_left _ (List.mem_append_left _ (List.mem_append_left _ (List.mem_append_right _ h))))))))
  have hl := lv_entry ([.ref (ad 224), .int x1, .int x2]) (n := 5) (Nat.le_of_ble_eq_true rfl)
  have hef := lg_entry_eq m ([.ref (ad 224), .int x1, .int x2]) 5
  rw [← hav] at hef
  rw [hef]
  clear hef
  generalize (lg_sl ([.ref (ad 224), .int x1, .int x2]) ++ List.replicate (5 - (lg_sl ([.ref (ad 224), .int x1, .int x2])).length) Slot.unset).toArray = ls at hl ⊢
  have hl : lv_has ls 5 [(0, .ref (ad 224)), (1, .int x1), (2, .int x2)] := hl
  clear hP0
  unfold f_X10_setWeight at hr
  refine lv_aload_n hx hb dX10_setWeight_0 rfl (lv_at hl 0 rfl) ?_
  refine g10_0 hx hb hts hi10 hown hK hW (k := 224) rfl (hts _ (wm 1 rfl)) dX10_setWeight_1 ?_
  refine lv_iload_n hx hb dX10_setWeight_4 rfl (lv_at hl 1 rfl) ?_
  obtain ⟨r_1, hc5, hr⟩ := ob1_e hr
  refine xk_q (va_runV (As := [.int x1]) (rest := []) ⟨hx, hb, hml, hown, hts⟩ (c_X8_pathAt l D cA ad M x1 hc5) (cwV 1 hts gX10_setWeight_X8_pathAt rfl rfl rfl (by decide +kernel) ⟨Nat.le_of_ble_eq_true rfl, Nat.le_of_ble_eq_true rfl⟩) (xpreV hK hW (k := 0) rfl (by decide) rfl) rfl rfl hl.1 rfl (lv_room (Nat.le_of_ble_eq_true rfl)) dX10_setWeight_5 ⟨Nat.le_of_ble_eq_true rfl, Nat.le_of_ble_eq_true rfl⟩) hW (fun H locs hW => ?_)
  cases r_1 with
  | none =>
    have hr : _ = _ := hr
    simp only [onl] at hr
    refine lv_astore_nN (lv' := [(3, .null), (0, .ref (ad 224)), (1, .int x1), (2, .int x2)]) hx hb dX10_setWeight_8 rfl hl (by decide) rfl (fun ls hl => ?_)
    refine lv_aload_nN hx hb dX10_setWeight_9 rfl (lv_at hl 0 rfl) ?_
    refine lv_ifnonnullN hx hb dX10_setWeight_10 ?_
    refine lv_ldc (v := (-2000000001 : Int32)) hx hb hown (hts _ (wm 2 rfl)) dX10_setWeight_13 ?_
    obtain ⟨e1, e2⟩ := Prod.mk.inj (Option.some.inj hr)
    rw [← e1, ← e2]
    exact xiret hx hb hr0 hlocks hW adR_rf dX10_setWeight_15
  | some k_2 =>
    simp only [onl] at hr
    obtain ⟨hk5, hr⟩ := chk_e hr
    have hk5 := of_decide_eq_true hk5
    refine lv_astore_n (lv' := [(3, .ref (ad k_2)), (0, .ref (ad 224)), (1, .int x1), (2, .int x2)]) hx hb dX10_setWeight_8 rfl hl (by decide) rfl (fun ls hl => ?_)
    refine lv_aload_n hx hb dX10_setWeight_9 rfl (lv_at hl 0 rfl) ?_
    refine lv_ifnonnull (tgt := 16) hx hb dX10_setWeight_10 (by decide) ?_
    refine lv_iload_n hx hb dX10_setWeight_16 rfl (lv_at hl 3 rfl) ?_
    refine lv_iconst (v := (1 : Int32)) hx hb dX10_setWeight_17 (by decide) ?_
    refine lv_sipush (v := (1000 : Int32)) hx hb dX10_setWeight_18 (by decide) ?_
    obtain ⟨r_3, hc21, hr⟩ := ob1_e hr
    refine xk_i (va_runS (As := [.int x2, .int (1 : Int32), .int (1000 : Int32)]) (rest := []) ⟨hx, hb, hml, hown, hts⟩ (c_X10_isWithin l D cA ad M x2 (1 : Int32) (1000 : Int32) hc21) (va_cwS 3 hts gX10_setWeight_X10_isWithin rfl rfl rfl (by decide +kernel) ⟨Nat.le_of_ble_eq_true rfl, Nat.le_of_ble_eq_true rfl⟩) (xpreS hK hW) rfl rfl hl.1 rfl (lv_room (Nat.le_of_ble_eq_true rfl)) dX10_setWeight_21 ⟨Nat.le_of_ble_eq_true rfl, Nat.le_of_ble_eq_true rfl⟩) hW (fun H locs hW => ?_)
    refine lv_if_ne (tgt := 30) hx hb dX10_setWeight_24 (by decide) (fun c1 => ?_) (fun c1 => ?_)
    · have hr := br_n c1 hr
      refine lv_aload_n hx hb dX10_setWeight_30 rfl (lv_at hl 1 rfl) ?_
      refine g10_1 hx hb hts hi10 hown hK hW (k := 224) rfl (hts _ (wm 4 rfl)) dX10_setWeight_31 ?_
      refine lv_aload_n hx hb dX10_setWeight_34 rfl (lv_at hl 1 rfl) ?_
      refine g10_0 hx hb hts hi10 hown hK hW (k := 224) rfl (hts _ (wm 1 rfl)) dX10_setWeight_35 ?_
      obtain ⟨hst38_3, hr⟩ := chk_e hr
      obtain ⟨M_4, hc38, hr⟩ := ob1_e hr
      refine xc_v (va_runV (As := [.ref (ad 0)]) (rest := []) ⟨hx, hb, hml, hown, hts⟩ (c_X1_push l D cA ad M hc38) (cwV 1 hts gX10_setWeight_X1_push rfl rfl rfl (by decide +kernel) ⟨Nat.le_of_ble_eq_true rfl, Nat.le_of_ble_eq_true rfl⟩) (xpreV hK hW (k := 225) rfl (by decide) rfl) rfl rfl hl.1 rfl (lv_room (Nat.le_of_ble_eq_true rfl)) dX10_setWeight_38 ⟨Nat.le_of_ble_eq_true rfl, Nat.le_of_ble_eq_true rfl⟩) hW (fun ad_5 H locs had2 hW => ?_)
      have hl := lv_sub (l' := [(3, .ref (ad k_2)), (1, .int x1), (2, .int x2)]) hl [0, 2, 3] rfl
      rw [← had2.1 k_2 hst38_3] at hl
      have had := had2
      refine lv_aload_n hx hb dX10_setWeight_41 rfl (lv_at hl 0 rfl) ?_
      refine g3_2 hx hb hts hi3 hown hK hW (k := k_2) hk5 (hts _ (wm 5 rfl)) dX10_setWeight_42 ?_
      obtain ⟨x4_6, ex4_6, hr⟩ := lt1_e hr
      rw [← ex4_6]
      refine lv_istore (lv' := [(4, .int x4_6), (3, .ref (ad_5 k_2)), (1, .int x1), (2, .int x2)]) hx hb dX10_setWeight_45 hl (by decide) rfl (fun ls hl => ?_)
      refine lv_aload_n hx hb dX10_setWeight_47 rfl (lv_at hl 1 rfl) ?_
      refine lv_iload_n hx hb dX10_setWeight_48 rfl (lv_at hl 3 rfl) ?_
      obtain ⟨M_7, eM_7, hr⟩ := lt1_e hr
      refine p3_2 hx hb hts hi3 hown hK hW (k := k_2) hk5 (hts _ (wm 5 rfl)) dX10_setWeight_49 (fun H locs hW => ?_)
      rw [← eM_7] at hW
      refine lv_iload hx hb dX10_setWeight_52 (lv_at hl 0 rfl) ?_
      obtain ⟨e1, e2⟩ := Prod.mk.inj (Option.some.inj hr)
      rw [← e1, ← e2]
      exact xiret hx hb hr0 hlocks hW had dX10_setWeight_54
    · have hr := br_p c1 hr
      refine lv_ldc (v := (-2000000002 : Int32)) hx hb hown (hts _ (wm 3 rfl)) dX10_setWeight_27 ?_
      obtain ⟨e1, e2⟩ := Prod.mk.inj (Option.some.inj hr)
      rw [← e1, ← e2]
      exact xiret hx hb hr0 hlocks hW adR_rf dX10_setWeight_29

set_option maxHeartbeats 4000000 in
set_option maxRecDepth 100000 in
theorem c_X10_setPoint (l : Launch) (D : va_G) (cA : Nat → ClassId) (ad : Nat → Nat) (M : Mm) (x1 : Int32) (x2 : Int32) {r : Int32} {M' : Mm} (hr : f_X10_setPoint x1 x2 M = some (r, M')) : Met l yX10_setPoint wsX10_setPoint ({ frames := 4, cells := 0, slots := 0, locals := 124 }) (PcX D true cA ad M [.ref (ad 224), .int x1, .int x2]) (QiX true D true cA ad r M') 0 0 (AX true ad) := by
  refine Met.ofW (cc := cX10_setPoint) (maxL := 4) (ret := (some .int)) (by decide) rfl ?_
  intro p e s m args below meth c s₁ B hml hv
  obtain ⟨hav, hP0, hK⟩ := hv
  have hx := B.exec
  have hb := B.bytes
  have hr0 := B.returns
  have hts := atoms_spec (ws := wsX10_setPoint) B.pre
  have hown : s.vm.findClass RX10 = some m.cls := findClass_of_methodNamed B.named
  have hlocks := B.notSynchronized
  have hW := xstart hP0
  have hi4 : ∀ w ∈ wsX40, w ∈ wsX10_setPoint := fun w h => List.mem_cons_of_mem _ (List.mem_append_left _ (List.mem_append_left _ (List.mem_append_left _ (List.mem_append_left _ (List.mem_append_left _ (List.mem_append_right _ h))))))
  have hi8 : ∀ w ∈ wsX80, w ∈ wsX10_setPoint := fun w h => List.mem_cons_of_mem _ (List.mem_append_left _ (List.mem_append_left _ (List.mem_append_left _ (List.mem_append_left _ (List.mem_append_left _ (List.mem_append_left _ (List.mem_append_right _ h)))))))
  have hi10 : ∀ w ∈ wsX100, w ∈ wsX10_setPoint := fun w h => List.mem_cons_of_mem _ (List.mem_append_left _ (List.mem_append_left _ (List.mem_append_left _ (List.mem_append_left _ (List.mem_append_left _ (List.mem_append_left _ (List.mem_append_left _ (List.mem_append_right _ h))))))))
  have hl := lv_entry ([.ref (ad 224), .int x1, .int x2]) (n := 4) (Nat.le_of_ble_eq_true rfl)
  have hef := lg_entry_eq m ([.ref (ad 224), .int x1, .int x2]) 4
  rw [← hav] at hef
  rw [hef]
  clear hef
  generalize (lg_sl ([.ref (ad 224), .int x1, .int x2]) ++ List.replicate (4 - (lg_sl ([.ref (ad 224), .int x1, .int x2])).length) Slot.unset).toArray = ls at hl ⊢
  have hl : lv_has ls 4 [(0, .ref (ad 224)), (1, .int x1), (2, .int x2)] := hl
  clear hP0
  unfold f_X10_setPoint at hr
  refine lv_iload_n hx hb dX10_setPoint_0 rfl (lv_at hl 1 rfl) ?_
  refine lv_iconst (v := (0 : Int32)) hx hb dX10_setPoint_1 (by decide) ?_
  refine lv_ldc (v := (100000 : Int32)) hx hb hown (hts _ (wm 1 rfl)) dX10_setPoint_2 ?_
  obtain ⟨r_1, hc4, hr⟩ := ob1_e hr
  refine xk_i (va_runS (As := [.int x1, .int (0 : Int32), .int (100000 : Int32)]) (rest := []) ⟨hx, hb, hml, hown, hts⟩ (c_X10_isWithin l D cA ad M x1 (0 : Int32) (100000 : Int32) hc4) (va_cwS 3 hts gX10_setPoint_X10_isWithin rfl rfl rfl (by decide +kernel) ⟨Nat.le_of_ble_eq_true rfl, Nat.le_of_ble_eq_true rfl⟩) (xpreS hK hW) rfl rfl hl.1 rfl (lv_room (Nat.le_of_ble_eq_true rfl)) dX10_setPoint_4 ⟨Nat.le_of_ble_eq_true rfl, Nat.le_of_ble_eq_true rfl⟩) hW (fun H locs hW => ?_)
  refine lv_if_eq (tgt := 23) hx hb dX10_setPoint_7 (by decide) (fun c1 => ?_) (fun c1 => ?_)
  · have hr := br_p c1 hr
    refine lv_ldc (v := (-2000000002 : Int32)) hx hb hown (hts _ (wm 2 rfl)) dX10_setPoint_23 ?_
    obtain ⟨e1, e2⟩ := Prod.mk.inj (Option.some.inj hr)
    rw [← e1, ← e2]
    exact xiret hx hb hr0 hlocks hW adR_rf dX10_setPoint_25
  · have hr := br_n c1 hr
    refine lv_iload_n hx hb dX10_setPoint_10 rfl (lv_at hl 2 rfl) ?_
    refine lv_sipush (v := (500 : Int32)) hx hb dX10_setPoint_11 (by decide) ?_
    refine lv_sipush (v := (1500 : Int32)) hx hb dX10_setPoint_14 (by decide) ?_
    obtain ⟨r_2, hc17, hr⟩ := ob1_e hr
    refine xk_i (va_runS (As := [.int x2, .int (500 : Int32), .int (1500 : Int32)]) (rest := []) ⟨hx, hb, hml, hown, hts⟩ (c_X10_isWithin l D cA ad M x2 (500 : Int32) (1500 : Int32) hc17) (va_cwS 3 hts gX10_setPoint_X10_isWithin rfl rfl rfl (by decide +kernel) ⟨Nat.le_of_ble_eq_true rfl, Nat.le_of_ble_eq_true rfl⟩) (xpreS hK hW) rfl rfl hl.1 rfl (lv_room (Nat.le_of_ble_eq_true rfl)) dX10_setPoint_17 ⟨Nat.le_of_ble_eq_true rfl, Nat.le_of_ble_eq_true rfl⟩) hW (fun H locs hW => ?_)
    refine lv_if_ne (tgt := 26) hx hb dX10_setPoint_20 (by decide) (fun c1 => ?_) (fun c1 => ?_)
    · have hr := br_n c1 hr
      refine lv_aload_n hx hb dX10_setPoint_26 rfl (lv_at hl 0 rfl) ?_
      refine g10_0 hx hb hts hi10 hown hK hW (k := 224) rfl (hts _ (wm 3 rfl)) dX10_setPoint_27 ?_
      refine g8_2 hx hb hts hi8 hown hK hW (k := 0) rfl (hts _ (wm 4 rfl)) dX10_setPoint_30 ?_
      refine lv_astore_n (lv' := [(3, .ref (ad 10)), (0, .ref (ad 224)), (1, .int x1), (2, .int x2)]) hx hb dX10_setPoint_33 rfl hl (by decide) rfl (fun ls hl => ?_)
      refine lv_aload_n hx hb dX10_setPoint_34 rfl (lv_at hl 0 rfl) ?_
      refine lv_iload_n hx hb dX10_setPoint_35 rfl (lv_at hl 2 rfl) ?_
      obtain ⟨r_3, hc36, hr⟩ := ob1_e hr
      refine xk_i (va_runV (As := [.int x1]) (rest := []) ⟨hx, hb, hml, hown, hts⟩ (c_X4_find l D cA ad M x1 hc36) (cwV 1 hts gX10_setPoint_X4_find rfl rfl rfl (by decide +kernel) ⟨Nat.le_of_ble_eq_true rfl, Nat.le_of_ble_eq_true rfl⟩) (xpreV hK hW (k := 10) rfl (by decide) rfl) rfl rfl hl.1 rfl (lv_room (Nat.le_of_ble_eq_true rfl)) dX10_setPoint_36 ⟨Nat.le_of_ble_eq_true rfl, Nat.le_of_ble_eq_true rfl⟩) hW (fun H locs hW => ?_)
      refine lv_if_ge (tgt := 54) hx hb dX10_setPoint_39 (by decide) (fun c1 => ?_) (fun c1 => ?_)
      · have hr := br_p c1 hr
        refine lv_aload_n hx hb dX10_setPoint_54 rfl (lv_at hl 1 rfl) ?_
        refine g10_1 hx hb hts hi10 hown hK hW (k := 224) rfl (hts _ (wm 7 rfl)) dX10_setPoint_55 ?_
        refine lv_aload_n hx hb dX10_setPoint_58 rfl (lv_at hl 1 rfl) ?_
        refine g10_0 hx hb hts hi10 hown hK hW (k := 224) rfl (hts _ (wm 3 rfl)) dX10_setPoint_59 ?_
        obtain ⟨M_4, hc62, hr⟩ := ob1_e hr
        refine xc_v (va_runV (As := [.ref (ad 0)]) (rest := []) ⟨hx, hb, hml, hown, hts⟩ (c_X1_push l D cA ad M hc62) (cwV 1 hts gX10_setPoint_X1_push rfl rfl rfl (by decide +kernel) ⟨Nat.le_of_ble_eq_true rfl, Nat.le_of_ble_eq_true rfl⟩) (xpreV hK hW (k := 225) rfl (by decide) rfl) rfl rfl hl.1 rfl (lv_room (Nat.le_of_ble_eq_true rfl)) dX10_setPoint_62 ⟨Nat.le_of_ble_eq_true rfl, Nat.le_of_ble_eq_true rfl⟩) hW (fun ad_5 H locs had2 hW => ?_)
        have hl := lv_sub (l' := [(3, .ref (ad 10)), (1, .int x1), (2, .int x2)]) hl [0, 2, 3] rfl
        rw [← had2.1 10 rfl] at hl
        have had := had2
        refine lv_aload_n hx hb dX10_setPoint_65 rfl (lv_at hl 0 rfl) ?_
        refine lv_iload_n hx hb dX10_setPoint_66 rfl (lv_at hl 1 rfl) ?_
        refine lv_iload_n hx hb dX10_setPoint_67 rfl (lv_at hl 2 rfl) ?_
        obtain ⟨M_6, hc68, hr⟩ := ob1_e hr
        refine xk_v (va_runV (As := [.int x1, .int x2]) (rest := []) ⟨hx, hb, hml, hown, hts⟩ (c_X4_put l D cA ad_5 M_4 x1 x2 hc68) (cwV 2 hts gX10_setPoint_X4_put rfl rfl rfl (by decide +kernel) ⟨Nat.le_of_ble_eq_true rfl, Nat.le_of_ble_eq_true rfl⟩) (xpreV hK hW (k := 10) rfl (by decide) rfl) rfl rfl hl.1 rfl (lv_room (Nat.le_of_ble_eq_true rfl)) dX10_setPoint_68 ⟨Nat.le_of_ble_eq_true rfl, Nat.le_of_ble_eq_true rfl⟩) hW (fun H locs hW => ?_)
        refine lv_aload_n hx hb dX10_setPoint_71 rfl (lv_at hl 0 rfl) ?_
        refine g4_2 hx hb hts hi4 hown hK hW (k := 10) rfl (hts _ (wm 5 rfl)) dX10_setPoint_72 ?_
        obtain ⟨e1, e2⟩ := Prod.mk.inj (Option.some.inj hr)
        rw [← e1, ← e2]
        exact xiret hx hb hr0 hlocks hW had dX10_setPoint_75
      · have hr := br_n c1 hr
        refine lv_aload_n hx hb dX10_setPoint_42 rfl (lv_at hl 0 rfl) ?_
        refine g4_2 hx hb hts hi4 hown hK hW (k := 10) rfl (hts _ (wm 5 rfl)) dX10_setPoint_43 ?_
        refine lv_bipush (v := (6 : Int32)) hx hb dX10_setPoint_46 (by decide) ?_
        refine lv_icmp_lt (tgt := 54) hx hb dX10_setPoint_48 (by decide) (fun c1 => ?_) (fun c1 => ?_)
        · have hr := br_p c1 hr
          refine lv_aload_n hx hb dX10_setPoint_54 rfl (lv_at hl 1 rfl) ?_
          refine g10_1 hx hb hts hi10 hown hK hW (k := 224) rfl (hts _ (wm 7 rfl)) dX10_setPoint_55 ?_
          refine lv_aload_n hx hb dX10_setPoint_58 rfl (lv_at hl 1 rfl) ?_
          refine g10_0 hx hb hts hi10 hown hK hW (k := 224) rfl (hts _ (wm 3 rfl)) dX10_setPoint_59 ?_
          obtain ⟨M_7, hc62, hr⟩ := ob1_e hr
          refine xc_v (va_runV (As := [.ref (ad 0)]) (rest := []) ⟨hx, hb, hml, hown, hts⟩ (c_X1_push l D cA ad M hc62) (cwV 1 hts gX10_setPoint_X1_push rfl rfl rfl (by decide +kernel) ⟨Nat.le_of_ble_eq_true rfl, Nat.le_of_ble_eq_true rfl⟩) (xpreV hK hW (k := 225) rfl (by decide) rfl) rfl rfl hl.1 rfl (lv_room (Nat.le_of_ble_eq_true rfl)) dX10_setPoint_62 ⟨Nat.le_of_ble_eq_true rfl, Nat.le_of_ble_eq_true rfl⟩) hW (fun ad_8 H locs had2 hW => ?_)
          have hl := lv_sub (l' := [(3, .ref (ad 10)), (1, .int x1), (2, .int x2)]) hl [0, 2, 3] rfl
          rw [← had2.1 10 rfl] at hl
          have had := had2
          refine lv_aload_n hx hb dX10_setPoint_65 rfl (lv_at hl 0 rfl) ?_
          refine lv_iload_n hx hb dX10_setPoint_66 rfl (lv_at hl 1 rfl) ?_
          refine lv_iload_n hx hb dX10_setPoint_67 rfl (lv_at hl 2 rfl) ?_
          obtain ⟨M_9, hc68, hr⟩ := ob1_e hr
          refine xk_v (va_runV (As := [.int x1, .int x2]) (rest := []) ⟨hx, hb, hml, hown, hts⟩ (c_X4_put l D cA ad_8 M_7 x1 x2 hc68) (cwV 2 hts gX10_setPoint_X4_put rfl rfl rfl (by decide +kernel) ⟨Nat.le_of_ble_eq_true rfl, Nat.le_of_ble_eq_true rfl⟩) (xpreV hK hW (k := 10) rfl (by decide) rfl) rfl rfl hl.1 rfl (lv_room (Nat.le_of_ble_eq_true rfl)) dX10_setPoint_68 ⟨Nat.le_of_ble_eq_true rfl, Nat.le_of_ble_eq_true rfl⟩) hW (fun H locs hW => ?_)
          refine lv_aload_n hx hb dX10_setPoint_71 rfl (lv_at hl 0 rfl) ?_
          refine g4_2 hx hb hts hi4 hown hK hW (k := 10) rfl (hts _ (wm 5 rfl)) dX10_setPoint_72 ?_
          obtain ⟨e1, e2⟩ := Prod.mk.inj (Option.some.inj hr)
          rw [← e1, ← e2]
          exact xiret hx hb hr0 hlocks hW had dX10_setPoint_75
        · have hr := br_n c1 hr
          refine lv_ldc (v := (-2000000004 : Int32)) hx hb hown (hts _ (wm 6 rfl)) dX10_setPoint_51 ?_
          obtain ⟨e1, e2⟩ := Prod.mk.inj (Option.some.inj hr)
          rw [← e1, ← e2]
          exact xiret hx hb hr0 hlocks hW adR_rf dX10_setPoint_53
    · have hr := br_p c1 hr
      refine lv_ldc (v := (-2000000002 : Int32)) hx hb hown (hts _ (wm 2 rfl)) dX10_setPoint_23 ?_
      obtain ⟨e1, e2⟩ := Prod.mk.inj (Option.some.inj hr)
      rw [← e1, ← e2]
      exact xiret hx hb hr0 hlocks hW adR_rf dX10_setPoint_25

set_option maxHeartbeats 4000000 in
set_option maxRecDepth 100000 in
theorem c_X10_removePoint (l : Launch) (D : va_G) (cA : Nat → ClassId) (ad : Nat → Nat) (M : Mm) (x1 : Int32) {r : Int32} {M' : Mm} (hr : f_X10_removePoint x1 M = some (r, M')) : Met l yX10_removePoint wsX10_removePoint ({ frames := 4, cells := 0, slots := 0, locals := 124 }) (PcX D true cA ad M [.ref (ad 224), .int x1]) (QiX true D true cA ad r M') 0 0 (AX true ad) := by
  refine Met.ofW (cc := cX10_removePoint) (maxL := 3) (ret := (some .int)) (by decide) rfl ?_
  intro p e s m args below meth c s₁ B hml hv
  obtain ⟨hav, hP0, hK⟩ := hv
  have hx := B.exec
  have hb := B.bytes
  have hr0 := B.returns
  have hts := atoms_spec (ws := wsX10_removePoint) B.pre
  have hown : s.vm.findClass RX10 = some m.cls := findClass_of_methodNamed B.named
  have hlocks := B.notSynchronized
  have hW := xstart hP0
  have hi8 : ∀ w ∈ wsX80, w ∈ wsX10_removePoint := fun w h => List.mem_cons_of_mem _ (List.mem_append_left _ (List.mem_append_left _ (List.mem_append_left _ (List.mem_append_left _ (List.mem_append_left _ (List.mem_append_left _ (List.mem_append_right _ h)))))))
  have hi10 : ∀ w ∈ wsX100, w ∈ wsX10_removePoint := fun w h => List.mem_cons_of_mem _ (List.mem_append_left _ (List.mem_append_left _ (List.mem_append_left _ (List.mem_append_left _ (List.mem_append_left _ (List.mem_append_left _ (List.mem_append_left _ (List.mem_append_right _ h))))))))
  have hl := lv_entry ([.ref (ad 224), .int x1]) (n := 3) (Nat.le_of_ble_eq_true rfl)
  have hef := lg_entry_eq m ([.ref (ad 224), .int x1]) 3
  rw [← hav] at hef
  rw [hef]
  clear hef
  generalize (lg_sl ([.ref (ad 224), .int x1]) ++ List.replicate (3 - (lg_sl ([.ref (ad 224), .int x1])).length) Slot.unset).toArray = ls at hl ⊢
  have hl : lv_has ls 3 [(0, .ref (ad 224)), (1, .int x1)] := hl
  clear hP0
  unfold f_X10_removePoint at hr
  refine lv_iload_n hx hb dX10_removePoint_0 rfl (lv_at hl 1 rfl) ?_
  refine lv_iconst (v := (0 : Int32)) hx hb dX10_removePoint_1 (by decide) ?_
  refine lv_ldc (v := (100000 : Int32)) hx hb hown (hts _ (wm 1 rfl)) dX10_removePoint_2 ?_
  obtain ⟨r_1, hc4, hr⟩ := ob1_e hr
  refine xk_i (va_runS (As := [.int x1, .int (0 : Int32), .int (100000 : Int32)]) (rest := []) ⟨hx, hb, hml, hown, hts⟩ (c_X10_isWithin l D cA ad M x1 (0 : Int32) (100000 : Int32) hc4) (va_cwS 3 hts gX10_removePoint_X10_isWithin rfl rfl rfl (by decide +kernel) ⟨Nat.le_of_ble_eq_true rfl, Nat.le_of_ble_eq_true rfl⟩) (xpreS hK hW) rfl rfl hl.1 rfl (lv_room (Nat.le_of_ble_eq_true rfl)) dX10_removePoint_4 ⟨Nat.le_of_ble_eq_true rfl, Nat.le_of_ble_eq_true rfl⟩) hW (fun H locs hW => ?_)
  refine lv_if_ne (tgt := 13) hx hb dX10_removePoint_7 (by decide) (fun c1 => ?_) (fun c1 => ?_)
  · have hr := br_n c1 hr
    refine lv_aload_n hx hb dX10_removePoint_13 rfl (lv_at hl 0 rfl) ?_
    refine g10_0 hx hb hts hi10 hown hK hW (k := 224) rfl (hts _ (wm 3 rfl)) dX10_removePoint_14 ?_
    refine g8_2 hx hb hts hi8 hown hK hW (k := 0) rfl (hts _ (wm 4 rfl)) dX10_removePoint_17 ?_
    refine lv_iload_n hx hb dX10_removePoint_20 rfl (lv_at hl 1 rfl) ?_
    obtain ⟨r_2, hc21, hr⟩ := ob1_e hr
    refine xk_i (va_runV (As := [.int x1]) (rest := []) ⟨hx, hb, hml, hown, hts⟩ (c_X4_find l D cA ad M x1 hc21) (cwV 1 hts gX10_removePoint_X4_find rfl rfl rfl (by decide +kernel) ⟨Nat.le_of_ble_eq_true rfl, Nat.le_of_ble_eq_true rfl⟩) (xpreV hK hW (k := 10) rfl (by decide) rfl) rfl rfl hl.1 rfl (lv_room (Nat.le_of_ble_eq_true rfl)) dX10_removePoint_21 ⟨Nat.le_of_ble_eq_true rfl, Nat.le_of_ble_eq_true rfl⟩) hW (fun H locs hW => ?_)
    refine lv_istore_n (lv' := [(2, .int r_2), (0, .ref (ad 224)), (1, .int x1)]) hx hb dX10_removePoint_24 rfl hl (by decide) rfl (fun ls hl => ?_)
    refine lv_iload_n hx hb dX10_removePoint_25 rfl (lv_at hl 0 rfl) ?_
    refine lv_if_ge (tgt := 32) hx hb dX10_removePoint_26 (by decide) (fun c1 => ?_) (fun c1 => ?_)
    · have hr := br_p c1 hr
      refine lv_aload_n hx hb dX10_removePoint_32 rfl (lv_at hl 1 rfl) ?_
      refine g10_1 hx hb hts hi10 hown hK hW (k := 224) rfl (hts _ (wm 6 rfl)) dX10_removePoint_33 ?_
      refine lv_aload_n hx hb dX10_removePoint_36 rfl (lv_at hl 1 rfl) ?_
      refine g10_0 hx hb hts hi10 hown hK hW (k := 224) rfl (hts _ (wm 3 rfl)) dX10_removePoint_37 ?_
      obtain ⟨M_3, hc40, hr⟩ := ob1_e hr
      refine xc_v (va_runV (As := [.ref (ad 0)]) (rest := []) ⟨hx, hb, hml, hown, hts⟩ (c_X1_push l D cA ad M hc40) (cwV 1 hts gX10_removePoint_X1_push rfl rfl rfl (by decide +kernel) ⟨Nat.le_of_ble_eq_true rfl, Nat.le_of_ble_eq_true rfl⟩) (xpreV hK hW (k := 225) rfl (by decide) rfl) rfl rfl hl.1 rfl (lv_room (Nat.le_of_ble_eq_true rfl)) dX10_removePoint_40 ⟨Nat.le_of_ble_eq_true rfl, Nat.le_of_ble_eq_true rfl⟩) hW (fun ad_4 H locs had2 hW => ?_)
      rw [← had2.1 224 rfl] at hl
      have had := had2
      refine lv_aload_n hx hb dX10_removePoint_43 rfl (lv_at hl 1 rfl) ?_
      refine g10_0 hx hb hts hi10 hown hK hW (k := 224) rfl (hts _ (wm 3 rfl)) dX10_removePoint_44 ?_
      refine g8_2 hx hb hts hi8 hown hK hW (k := 0) rfl (hts _ (wm 4 rfl)) dX10_removePoint_47 ?_
      refine lv_iload_n hx hb dX10_removePoint_50 rfl (lv_at hl 0 rfl) ?_
      obtain ⟨r_6, M_5, hc51, hr⟩ := ob2_e hr
      refine xk_i (va_runV (As := [.int r_2]) (rest := []) ⟨hx, hb, hml, hown, hts⟩ (c_X4_take l D cA ad_4 M_3 r_2 hc51) (cwV 1 hts gX10_removePoint_X4_take rfl rfl rfl (by decide +kernel) ⟨Nat.le_of_ble_eq_true rfl, Nat.le_of_ble_eq_true rfl⟩) (xpreV hK hW (k := 10) rfl (by decide) rfl) rfl rfl hl.1 rfl (lv_room (Nat.le_of_ble_eq_true rfl)) dX10_removePoint_51 ⟨Nat.le_of_ble_eq_true rfl, Nat.le_of_ble_eq_true rfl⟩) hW (fun H locs hW => ?_)
      obtain ⟨e1, e2⟩ := Prod.mk.inj (Option.some.inj hr)
      rw [← e1, ← e2]
      exact xiret hx hb hr0 hlocks hW had dX10_removePoint_54
    · have hr := br_n c1 hr
      refine lv_ldc (v := (-2000000003 : Int32)) hx hb hown (hts _ (wm 5 rfl)) dX10_removePoint_29 ?_
      obtain ⟨e1, e2⟩ := Prod.mk.inj (Option.some.inj hr)
      rw [← e1, ← e2]
      exact xiret hx hb hr0 hlocks hW adR_rf dX10_removePoint_31
  · have hr := br_p c1 hr
    refine lv_ldc (v := (-2000000002 : Int32)) hx hb hown (hts _ (wm 2 rfl)) dX10_removePoint_10 ?_
    obtain ⟨e1, e2⟩ := Prod.mk.inj (Option.some.inj hr)
    rw [← e1, ← e2]
    exact xiret hx hb hr0 hlocks hW adR_rf dX10_removePoint_12

set_option maxHeartbeats 4000000 in
set_option maxRecDepth 100000 in
theorem c_X10_set (l : Launch) (D : va_G) (cA : Nat → ClassId) (ad : Nat → Nat) (M : Mm) (x1 : Int32) (x2 : Int32) (t_SETTING_LOW t_SETTING_HIGH : Nat) {r : Int32} {M' : Mm} (hr : f_X10_set x1 x2 M = some (r, M')) : Met l yX10_set wsX10_set ({ frames := 4, cells := 0, slots := 0, locals := 124 }) (PcS D cA ad M t_SETTING_LOW t_SETTING_HIGH [.ref (ad 224), .int x1, .int x2]) (QiX true D true cA ad r M') 0 0 (AX true ad) := by
  refine Met.ofW (cc := cX10_set) (maxL := 4) (ret := (some .int)) (by decide) rfl ?_
  intro p e s m args below meth c s₁ B hml hv
  obtain ⟨hav, hP0, hK, hZ_SETTING_LOW, hT_SETTING_LOW, hZ_SETTING_HIGH, hT_SETTING_HIGH⟩ := hv
  have hx := B.exec
  have hb := B.bytes
  have hr0 := B.returns
  have hts := atoms_spec (ws := wsX10_set) B.pre
  have hown : s.vm.findClass RX10 = some m.cls := findClass_of_methodNamed B.named
  have hlocks := B.notSynchronized
  have hW := xstart hP0
  have hi8 : ∀ w ∈ wsX80, w ∈ wsX10_set := fun w h => List.mem_cons_of_mem _ (List.mem_append_left _ (List.mem_append_left _ (List.mem_append_left _ (List.mem_append_left _ (List.mem_append_left _ (List.mem_append_left _ (List.mem_append_right _ h)))))))
  have hi10 : ∀ w ∈ wsX100, w ∈ wsX10_set := fun w h => List.mem_cons_of_mem _ (List.mem_append_left _ (List.mem_append_left _ (List.mem_append_left _ (List.mem_append_left _ (List.mem_append_left _ (List.mem_append_left _ (List.mem_append_left _ (List.mem_append_right _ h))))))))
  have hl := lv_entry ([.ref (ad 224), .int x1, .int x2]) (n := 4) (Nat.le_of_ble_eq_true rfl)
  have hef := lg_entry_eq m ([.ref (ad 224), .int x1, .int x2]) 4
  rw [← hav] at hef
  rw [hef]
  clear hef
  generalize (lg_sl ([.ref (ad 224), .int x1, .int x2]) ++ List.replicate (4 - (lg_sl ([.ref (ad 224), .int x1, .int x2])).length) Slot.unset).toArray = ls at hl ⊢
  have hl : lv_has ls 4 [(0, .ref (ad 224)), (1, .int x1), (2, .int x2)] := hl
  clear hP0
  unfold f_X10_set at hr
  refine lv_iload_n hx hb dX10_set_0 rfl (lv_at hl 1 rfl) ?_
  refine lv_if_lt (tgt := 9) hx hb dX10_set_1 (by decide) (fun c1 => ?_) (fun c1 => ?_)
  · have hr := br_p c1 hr
    refine lv_ldc (v := (-2000000001 : Int32)) hx hb hown (hts _ (wm 1 rfl)) dX10_set_9 ?_
    obtain ⟨e1, e2⟩ := Prod.mk.inj (Option.some.inj hr)
    rw [← e1, ← e2]
    exact xiret hx hb hr0 hlocks hW adR_rf dX10_set_11
  · have hr := br_n c1 hr
    refine lv_iload_n hx hb dX10_set_4 rfl (lv_at hl 1 rfl) ?_
    refine lv_iconst (v := (5 : Int32)) hx hb dX10_set_5 (by decide) ?_
    refine lv_icmp_lt (tgt := 12) hx hb dX10_set_6 (by decide) (fun c1 => ?_) (fun c1 => ?_)
    · have hr := br_p c1 hr
      refine lv_iload_n hx hb dX10_set_12 rfl (lv_at hl 2 rfl) ?_
      refine va_gets (C := "TransitMeter") hx hb hZ_SETTING_LOW hW.2.2 hown (hts _ (wm 2 rfl)) (fun _ h9 => h9) dX10_set_13 ?_
      refine lv_iload_n hx hb dX10_set_16 rfl (lv_at hl 1 rfl) ?_
      obtain ⟨hi17x, hr⟩ := chk_e hr
      refine va_ti hx hb hT_SETTING_LOW hW.2.2 (inb_in hi17x) rfl dX10_set_17 ?_
      refine va_gets (C := "TransitMeter") hx hb hZ_SETTING_HIGH hW.2.2 hown (hts _ (wm 3 rfl)) (fun _ h9 => h9) dX10_set_18 ?_
      refine lv_iload_n hx hb dX10_set_21 rfl (lv_at hl 1 rfl) ?_
      obtain ⟨hi22x, hr⟩ := chk_e hr
      refine va_ti hx hb hT_SETTING_HIGH hW.2.2 (inb_in hi22x) rfl dX10_set_22 ?_
      obtain ⟨r_1, hc23, hr⟩ := ob1_e hr
      refine xk_i (va_runS (As := [.int x2, .int (sSETTING_LOW (ix x1)), .int (sSETTING_HIGH (ix x1))]) (rest := []) ⟨hx, hb, hml, hown, hts⟩ (c_X10_isWithin l D cA ad M x2 (sSETTING_LOW (ix x1)) (sSETTING_HIGH (ix x1)) hc23) (va_cwS 3 hts gX10_set_X10_isWithin rfl rfl rfl (by decide +kernel) ⟨Nat.le_of_ble_eq_true rfl, Nat.le_of_ble_eq_true rfl⟩) (xpreS hK hW) rfl rfl hl.1 rfl (lv_room (Nat.le_of_ble_eq_true rfl)) dX10_set_23 ⟨Nat.le_of_ble_eq_true rfl, Nat.le_of_ble_eq_true rfl⟩) hW (fun H locs hW => ?_)
      refine lv_if_ne (tgt := 32) hx hb dX10_set_26 (by decide) (fun c1 => ?_) (fun c1 => ?_)
      · have hr := br_n c1 hr
        refine lv_aload_n hx hb dX10_set_32 rfl (lv_at hl 0 rfl) ?_
        refine g10_1 hx hb hts hi10 hown hK hW (k := 224) rfl (hts _ (wm 5 rfl)) dX10_set_33 ?_
        refine lv_aload_n hx hb dX10_set_36 rfl (lv_at hl 0 rfl) ?_
        refine g10_0 hx hb hts hi10 hown hK hW (k := 224) rfl (hts _ (wm 6 rfl)) dX10_set_37 ?_
        obtain ⟨M_2, hc40, hr⟩ := ob1_e hr
        refine xc_v (va_runV (As := [.ref (ad 0)]) (rest := []) ⟨hx, hb, hml, hown, hts⟩ (c_X1_push l D cA ad M hc40) (cwV 1 hts gX10_set_X1_push rfl rfl rfl (by decide +kernel) ⟨Nat.le_of_ble_eq_true rfl, Nat.le_of_ble_eq_true rfl⟩) (xpreV hK hW (k := 225) rfl (by decide) rfl) rfl rfl hl.1 rfl (lv_room (Nat.le_of_ble_eq_true rfl)) dX10_set_40 ⟨Nat.le_of_ble_eq_true rfl, Nat.le_of_ble_eq_true rfl⟩) hW (fun ad_3 H locs had2 hW => ?_)
        rw [← had2.1 224 rfl] at hl
        have had := had2
        refine lv_aload_n hx hb dX10_set_43 rfl (lv_at hl 0 rfl) ?_
        refine g10_0 hx hb hts hi10 hown hK hW (k := 224) rfl (hts _ (wm 6 rfl)) dX10_set_44 ?_
        refine g8_3 hx hb hts hi8 hown hK hW (k := 0) rfl (hts _ (wm 7 rfl)) dX10_set_47 ?_
        refine lv_iload_n hx hb dX10_set_50 rfl (lv_at hl 1 rfl) ?_
        obtain ⟨hn51, hr⟩ := chk_e hr
        refine xiald hx hb hK hW (k := 13) (t := 21) rfl (by decide) (by decide) rfl (n := 5) hn51 (jx := (ix x1)) rfl dX10_set_51 ?_
        obtain ⟨x3_4, ex3_4, hr⟩ := lt1_e hr
        rw [← ex3_4]
        refine lv_istore_n (lv' := [(3, .int x3_4), (0, .ref (ad_3 224)), (1, .int x1), (2, .int x2)]) hx hb dX10_set_52 rfl hl (by decide) rfl (fun ls hl => ?_)
        refine lv_aload_n hx hb dX10_set_53 rfl (lv_at hl 1 rfl) ?_
        refine g10_0 hx hb hts hi10 hown hK hW (k := 224) rfl (hts _ (wm 6 rfl)) dX10_set_54 ?_
        refine g8_3 hx hb hts hi8 hown hK hW (k := 0) rfl (hts _ (wm 7 rfl)) dX10_set_57 ?_
        refine lv_iload_n hx hb dX10_set_60 rfl (lv_at hl 2 rfl) ?_
        refine lv_iload_n hx hb dX10_set_61 rfl (lv_at hl 3 rfl) ?_
        obtain ⟨hn62, hr⟩ := chk_e hr
        obtain ⟨M_5, eM_5, hr⟩ := lt1_e hr
        refine xiast hx hb hK hW (k := 13) (t := 21) rfl (by decide) (by decide) rfl (n := 5) hn62 (jx := (ix x1)) rfl dX10_set_62 (fun H locs hW => ?_)
        rw [← eM_5] at hW
        refine lv_iload_n hx hb dX10_set_63 rfl (lv_at hl 0 rfl) ?_
        obtain ⟨e1, e2⟩ := Prod.mk.inj (Option.some.inj hr)
        rw [← e1, ← e2]
        exact xiret hx hb hr0 hlocks hW had dX10_set_64
      · have hr := br_p c1 hr
        refine lv_ldc (v := (-2000000002 : Int32)) hx hb hown (hts _ (wm 4 rfl)) dX10_set_29 ?_
        obtain ⟨e1, e2⟩ := Prod.mk.inj (Option.some.inj hr)
        rw [← e1, ← e2]
        exact xiret hx hb hr0 hlocks hW adR_rf dX10_set_31
    · have hr := br_n c1 hr
      refine lv_ldc (v := (-2000000001 : Int32)) hx hb hown (hts _ (wm 1 rfl)) dX10_set_9 ?_
      obtain ⟨e1, e2⟩ := Prod.mk.inj (Option.some.inj hr)
      rw [← e1, ← e2]
      exact xiret hx hb hr0 hlocks hW adR_rf dX10_set_11

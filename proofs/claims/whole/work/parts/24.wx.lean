set_option maxHeartbeats 4000000 in
set_option maxRecDepth 100000 in
theorem c_X8_failingPaths (l : Launch) (D : va_G) (cA : Nat → ClassId) (ad : Nat → Nat) (M : Mm) {r : Int32} (hr : f_X8_failingPaths M = some r) : Met l yX8_failingPaths wsX8_failingPaths ({ frames := 1, cells := 0, slots := 0, locals := 20 }) (PcX D true cA ad M [.ref (ad 0)]) (QiX false D true cA ad r M) 0 0 (AX true ad) := by
  refine Met.ofW (cc := cX8_failingPaths) (maxL := 6) (ret := (some .int)) (by decide) rfl ?_
  intro p e s m args below meth c s₁ B hml hv
  obtain ⟨hav, hP0, hK⟩ := hv
  have hx := B.exec
  have hb := B.bytes
  have hr0 := B.returns
  have hts := atoms_spec (ws := wsX8_failingPaths) B.pre
  have hown : s.vm.findClass RX8 = some m.cls := findClass_of_methodNamed B.named
  have hlocks := B.notSynchronized
  have hW := xstart hP0
  have hi8 : ∀ w ∈ wsX80, w ∈ wsX8_failingPaths := fun w h => List.mem_cons_of_mem _ (List.mem_append_left _ (List.mem_append_right _ h))
  have hl := lv_entry ([.ref (ad 0)]) (n := 6) (Nat.le_of_ble_eq_true rfl)
  have hef := lg_entry_eq m ([.ref (ad 0)]) 6
  rw [← hav] at hef
  rw [hef]
  clear hef
  generalize (lg_sl ([.ref (ad 0)]) ++ List.replicate (6 - (lg_sl ([.ref (ad 0)])).length) Slot.unset).toArray = ls at hl ⊢
  have hl : lv_has ls 6 [(0, .ref (ad 0))] := hl
  clear hP0
  unfold f_X8_failingPaths at hr
  refine lv_iconst (v := (0 : Int32)) hx hb dX8_failingPaths_0 (by decide) ?_
  refine lv_istore_n (lv' := [(1, .int (0 : Int32)), (0, .ref (ad 0))]) hx hb dX8_failingPaths_1 rfl hl (by decide) rfl (fun ls hl => ?_)
  refine lv_aload_n hx hb dX8_failingPaths_2 rfl (lv_at hl 1 rfl) ?_
  refine g8_0 hx hb hts hi8 hown hK hW (k := 0) rfl (hts _ (wm 1 rfl)) dX8_failingPaths_3 ?_
  refine lv_astore_n (lv' := [(2, .ref (ad 1)), (1, .int (0 : Int32)), (0, .ref (ad 0))]) hx hb dX8_failingPaths_6 rfl hl (by decide) rfl (fun ls hl => ?_)
  refine lv_aload_n hx hb dX8_failingPaths_7 rfl (lv_at hl 0 rfl) ?_
  refine xalen hx hb hK hW (k := 1) (t := 50) rfl (by decide) (by decide) (v := (4 : Int32)) rfl dX8_failingPaths_8 ?_
  refine lv_istore_n (lv' := [(3, .int (4 : Int32)), (2, .ref (ad 1)), (1, .int (0 : Int32)), (0, .ref (ad 0))]) hx hb dX8_failingPaths_9 rfl hl (by decide) rfl (fun ls hl => ?_)
  refine lv_iconst (v := (0 : Int32)) hx hb dX8_failingPaths_10 (by decide) ?_
  refine lv_istore (lv' := [(4, .int (0 : Int32)), (3, .int (4 : Int32)), (2, .ref (ad 1)), (1, .int (0 : Int32)), (0, .ref (ad 0))]) hx hb dX8_failingPaths_11 hl (by decide) rfl (fun ls hl => ?_)
  have hL13_1 : ∀ (n : Nat) (x1_1 : Int32) (x4_2 : Int32) (H : Heap) (locs : List Loc) (ls : Array Slot) (x1_3 : Int32), Xw D true cA ad M (AX true ad) s.heap H locs → lv_has ls 6 [(3, .int (4 : Int32)), (2, .ref (ad 1)), (1, .int x1_1), (4, .int x4_2)] → f_X8_failingPaths_L13 M n x1_1 x4_2 = some x1_3 → (∀ (H : Heap) (locs : List Loc) (ls : Array Slot), Xw D true cA ad M (AX true ad) s.heap H locs → lv_has ls 6 [(1, .int x1_3)] → W p l e (headSpec wsX8_failingPaths { frames := 1, cells := 0, slots := 0, locals := 20 }).room s m args below meth c H locs 0 0 (MQ below (QiX false D true cA ad r M) args s 0 0 (AX true ad)) (F0 m 42 ls [])) → W p l e (headSpec wsX8_failingPaths { frames := 1, cells := 0, slots := 0, locals := 20 }).room s m args below meth c H locs 0 0 (MQ below (QiX false D true cA ad r M) args s 0 0 (AX true ad)) (F0 m 13 ls []) := by
    intro n
    induction n with
    | zero =>
      intro x1_1 x4_2 H locs ls x1_3 hW hl hr hk
      exact absurd hr (by simp [f_X8_failingPaths_L13])
    | succ n ih =>
      intro x1_1 x4_2 H locs ls x1_3 hW hl hr hk
      rw [f_X8_failingPaths_L13] at hr
      refine lv_iload hx hb dX8_failingPaths_13 (lv_at hl 3 rfl) ?_
      refine lv_iload_n hx hb dX8_failingPaths_15 rfl (lv_at hl 0 rfl) ?_
      refine lv_icmp_ge (tgt := 42) hx hb dX8_failingPaths_16 (by decide) (fun c1 => ?_) (fun c1 => ?_)
      · have hr := br_p c1 hr
        have e1 := Option.some.inj hr
        subst e1
        exact hk _ _ _ hW (lv_sub hl [2] rfl)
      · have hr := br_n c1 hr
        refine lv_aload_n hx hb dX8_failingPaths_19 rfl (lv_at hl 1 rfl) ?_
        refine lv_iload hx hb dX8_failingPaths_20 (lv_at hl 3 rfl) ?_
        obtain ⟨hn22, hr⟩ := chk_e hr
        refine xaald hx hb hK hW (k := 1) (t := 50) rfl (by decide) (by decide) rfl (t0 := 3) rfl hn22 dX8_failingPaths_22 ?_
        refine lv_astore (lv' := [(5, .ref (ad (rid 50 1 (ix x4_2)))), (3, .int (4 : Int32)), (2, .ref (ad 1)), (1, .int x1_1), (4, .int x4_2)]) hx hb dX8_failingPaths_23 hl (by decide) rfl (fun ls hl => ?_)
        refine lv_iload_n hx hb dX8_failingPaths_25 rfl (lv_at hl 3 rfl) ?_
        refine lv_aload hx hb dX8_failingPaths_26 (lv_at hl 0 rfl) ?_
        obtain ⟨r_4, hc28, hr⟩ := ob1_e hr
        refine xk_i (va_runV (As := []) (rest := [.int x1_1]) ⟨hx, hb, hml, hown, hts⟩ (c_X3_fails l D cA ad M (rid 50 1 (ix x4_2)) (ks_50 (k := 1) rfl hn22) hc28) (cwV 0 hts gX8_failingPaths_X3_fails rfl rfl rfl (by decide +kernel) ⟨Nat.le_of_ble_eq_true rfl, Nat.le_of_ble_eq_true rfl⟩) (xpreV hK hW (k := (rid 50 1 (ix x4_2))) (ks_50 (k := 1) rfl hn22) (by decide) rfl) rfl rfl hl.1 rfl (lv_room (Nat.le_of_ble_eq_true rfl)) dX8_failingPaths_28 ⟨Nat.le_of_ble_eq_true rfl, Nat.le_of_ble_eq_true rfl⟩) hW (fun H locs hW => ?_)
        obtain ⟨r_5, hc31, hr⟩ := ob1_e hr
        refine xk_i (va_runSN (As := [.int r_4]) (rest := [.int x1_1]) ⟨hx, hb, hml, hown, hts⟩ (c_X10_asNumber l D cA ad M r_4 hc31) ⟨va_cnB 1 hts gX8_failingPaths_X10_asNumber_n98 rfl rfl rfl hK.2.2.2.2.2.2.2.2.2.1 (hts _ (wm 9 rfl)) (by decide +kernel) ⟨Nat.le_of_ble_eq_true rfl, Nat.le_of_ble_eq_true rfl⟩, (hts _ (wm 8 rfl)), trivial⟩ (xpreS hK hW) rfl rfl hl.1 rfl (lv_room (Nat.le_of_ble_eq_true rfl)) dX8_failingPaths_31 ⟨Nat.le_of_ble_eq_true rfl, Nat.le_of_ble_eq_true rfl⟩) hW (fun H locs hW => ?_)
        refine lv_iadd hx hb dX8_failingPaths_34 ?_
        obtain ⟨x1_6, ex1_6, hr⟩ := lt1_e hr
        rw [← ex1_6]
        refine lv_istore_n (lv' := [(1, .int x1_6), (5, .ref (ad (rid 50 1 (ix x4_2)))), (3, .int (4 : Int32)), (2, .ref (ad 1)), (4, .int x4_2)]) hx hb dX8_failingPaths_35 rfl hl (by decide) rfl (fun ls hl => ?_)
        obtain ⟨x4_7, ex4_7, hr⟩ := lt1_e hr
        refine lv_iinc (v := x4_7) (lv' := [(4, .int x4_7), (1, .int x1_6), (5, .ref (ad (rid 50 1 (ix x4_2)))), (3, .int (4 : Int32)), (2, .ref (ad 1))]) hx hb dX8_failingPaths_36 hl (k := 4) rfl (by rw [ex4_7]; rfl) (by decide) rfl (fun ls hl => ?_)
        refine lv_goto (tgt := 13) hx hb dX8_failingPaths_39 (by decide) ?_
        exact ih x1_6 x4_7 _ _ _ _ hW (lv_sub hl [3, 4, 1, 0] rfl) hr hk
  obtain ⟨x1_3, hr, hr3⟩ := ob1_e hr
  refine hL13_1 1000 (0 : Int32) (0 : Int32) _ _ _ x1_3 hW (lv_sub hl [1, 2, 3, 0] rfl) hr (fun H locs ls hW hl => ?_)
  clear hr
  have hr := hr3
  refine lv_iload_n hx hb dX8_failingPaths_42 rfl (lv_at hl 0 rfl) ?_
  rw [← Option.some.inj hr]
  exact xiret hx hb hr0 hlocks hW adR_rf dX8_failingPaths_43

set_option maxHeartbeats 4000000 in
set_option maxRecDepth 100000 in
theorem c_X8_placeInTrust (l : Launch) (D : va_G) (cA : Nat → ClassId) (ad : Nat → Nat) (M : Mm) (x1 : Int32) {r : Int32} (hr : f_X8_placeInTrust x1 M = some r) : Met l yX8_placeInTrust wsX8_placeInTrust ({ frames := 2, cells := 0, slots := 0, locals := 44 }) (PcX D true cA ad M [.ref (ad 0), .int x1]) (QiX false D true cA ad r M) 0 0 (AX true ad) := by
  refine Met.ofW (cc := cX8_placeInTrust) (maxL := 5) (ret := (some .int)) (by decide) rfl ?_
  intro p e s m args below meth c s₁ B hml hv
  obtain ⟨hav, hP0, hK⟩ := hv
  have hx := B.exec
  have hb := B.bytes
  have hr0 := B.returns
  have hts := atoms_spec (ws := wsX8_placeInTrust) B.pre
  have hown : s.vm.findClass RX8 = some m.cls := findClass_of_methodNamed B.named
  have hlocks := B.notSynchronized
  have hW := xstart hP0
  have hi8 : ∀ w ∈ wsX80, w ∈ wsX8_placeInTrust := fun w h => List.mem_cons_of_mem _ (List.mem_append_left _ (List.mem_append_right _ h))
  have hl := lv_entry ([.ref (ad 0), .int x1]) (n := 5) (Nat.le_of_ble_eq_true rfl)
  have hef := lg_entry_eq m ([.ref (ad 0), .int x1]) 5
  rw [← hav] at hef
  rw [hef]
  clear hef
  generalize (lg_sl ([.ref (ad 0), .int x1]) ++ List.replicate (5 - (lg_sl ([.ref (ad 0), .int x1])).length) Slot.unset).toArray = ls at hl ⊢
  have hl : lv_has ls 5 [(0, .ref (ad 0)), (1, .int x1)] := hl
  clear hP0
  unfold f_X8_placeInTrust at hr
  refine lv_aload_n hx hb dX8_placeInTrust_0 rfl (lv_at hl 0 rfl) ?_
  refine lv_iload_n hx hb dX8_placeInTrust_1 rfl (lv_at hl 1 rfl) ?_
  obtain ⟨r_1, hc2, hr⟩ := ob1_e hr
  refine xk_q (va_runV (As := [.int x1]) (rest := []) ⟨hx, hb, hml, hown, hts⟩ (c_X8_pathAt l D cA ad M x1 hc2) (cwV 1 hts gX8_placeInTrust_X8_pathAt rfl rfl rfl (by decide +kernel) ⟨Nat.le_of_ble_eq_true rfl, Nat.le_of_ble_eq_true rfl⟩) (xpreV hK hW (k := 0) rfl (by decide) rfl) rfl rfl hl.1 rfl (lv_room (Nat.le_of_ble_eq_true rfl)) dX8_placeInTrust_2 ⟨Nat.le_of_ble_eq_true rfl, Nat.le_of_ble_eq_true rfl⟩) hW (fun H locs hW => ?_)
  cases r_1 with
  | none =>
    have hr : _ = _ := hr
    simp only [onl] at hr
    refine lv_astore_nN (lv' := [(2, .null), (0, .ref (ad 0)), (1, .int x1)]) hx hb dX8_placeInTrust_5 rfl hl (by decide) rfl (fun ls hl => ?_)
    refine lv_iconst (v := (0 : Int32)) hx hb dX8_placeInTrust_6 (by decide) ?_
    refine lv_istore_n (lv' := [(3, .int (0 : Int32)), (2, .null), (0, .ref (ad 0)), (1, .int x1)]) hx hb dX8_placeInTrust_7 rfl hl (by decide) rfl (fun ls hl => ?_)
    refine lv_iconst (v := (0 : Int32)) hx hb dX8_placeInTrust_8 (by decide) ?_
    refine lv_istore (lv' := [(4, .int (0 : Int32)), (3, .int (0 : Int32)), (2, .null), (0, .ref (ad 0)), (1, .int x1)]) hx hb dX8_placeInTrust_9 hl (by decide) rfl (fun ls hl => ?_)
    have hL11_1 : ∀ (n : Nat) (x3_3 : Int32) (x4_4 : Int32) (H : Heap) (locs : List Loc) (ls : Array Slot) (x3_5 : Int32), Xw D true cA ad M (AX true ad) s.heap H locs → lv_has ls 5 [(2, .null), (0, .ref (ad 0)), (1, .int x1), (3, .int x3_3), (4, .int x4_4)] → f_X8_placeInTrust_L11 M n x3_3 x4_4 = some x3_5 → (∀ (H : Heap) (locs : List Loc) (ls : Array Slot), Xw D true cA ad M (AX true ad) s.heap H locs → lv_has ls 5 [(3, .int x3_5)] → W p l e (headSpec wsX8_placeInTrust { frames := 2, cells := 0, slots := 0, locals := 44 }).room s m args below meth c H locs 0 0 (MQ below (QiX false D true cA ad r M) args s 0 0 (AX true ad)) (F0 m 70 ls [])) → W p l e (headSpec wsX8_placeInTrust { frames := 2, cells := 0, slots := 0, locals := 44 }).room s m args below meth c H locs 0 0 (MQ below (QiX false D true cA ad r M) args s 0 0 (AX true ad)) (F0 m 11 ls []) := by
      intro n
      induction n with
      | zero =>
        intro x3_3 x4_4 H locs ls x3_5 hW hl hr hk
        exact absurd hr (by simp [f_X8_placeInTrust_L11])
      | succ n ih =>
        intro x3_3 x4_4 H locs ls x3_5 hW hl hr hk
        rw [f_X8_placeInTrust_L11] at hr
        refine lv_iload hx hb dX8_placeInTrust_11 (lv_at hl 4 rfl) ?_
        refine lv_iconst (v := (4 : Int32)) hx hb dX8_placeInTrust_13 (by decide) ?_
        refine lv_icmp_ge (tgt := 70) hx hb dX8_placeInTrust_14 (by decide) (fun c1 => ?_) (fun c1 => ?_)
        · have hr := br_p c1 hr
          have e1 := Option.some.inj hr
          subst e1
          exact hk _ _ _ hW (lv_sub hl [3] rfl)
        · have hr := br_n c1 hr
          refine lv_iload hx hb dX8_placeInTrust_17 (lv_at hl 4 rfl) ?_
          refine lv_aload_n hx hb dX8_placeInTrust_19 rfl (lv_at hl 1 rfl) ?_
          refine g8_1 hx hb hts hi8 hown hK hW (k := 0) rfl (hts _ (wm 1 rfl)) dX8_placeInTrust_20 ?_
          refine lv_icmp_ge (tgt := 70) hx hb dX8_placeInTrust_23 (by decide) (fun c1 => ?_) (fun c1 => ?_)
          · have hr := br_p c1 hr
            have e1 := Option.some.inj hr
            subst e1
            exact hk _ _ _ hW (lv_sub hl [3] rfl)
          · have hr := br_n c1 hr
            refine lv_aload_nN hx hb dX8_placeInTrust_26 rfl (lv_at hl 0 rfl) ?_
            refine lv_ifnullN (tgt := 70) hx hb dX8_placeInTrust_27 (by decide) ?_
            have e1 := Option.some.inj hr
            subst e1
            exact hk _ _ _ hW (lv_sub hl [3] rfl)
    obtain ⟨x3_5, hr, hr3⟩ := ob1_e hr
    refine hL11_1 1000 (0 : Int32) (0 : Int32) _ _ _ x3_5 hW (lv_sub hl [2, 3, 4, 1, 0] rfl) hr (fun H locs ls hW hl => ?_)
    clear hr
    have hr := hr3
    refine lv_iload_n hx hb dX8_placeInTrust_70 rfl (lv_at hl 0 rfl) ?_
    rw [← Option.some.inj hr]
    exact xiret hx hb hr0 hlocks hW adR_rf dX8_placeInTrust_71
  | some k_2 =>
    simp only [onl] at hr
    obtain ⟨hk2, hr⟩ := chk_e hr
    have hk2 := of_decide_eq_true hk2
    refine lv_astore_n (lv' := [(2, .ref (ad k_2)), (0, .ref (ad 0)), (1, .int x1)]) hx hb dX8_placeInTrust_5 rfl hl (by decide) rfl (fun ls hl => ?_)
    refine lv_iconst (v := (0 : Int32)) hx hb dX8_placeInTrust_6 (by decide) ?_
    refine lv_istore_n (lv' := [(3, .int (0 : Int32)), (2, .ref (ad k_2)), (0, .ref (ad 0)), (1, .int x1)]) hx hb dX8_placeInTrust_7 rfl hl (by decide) rfl (fun ls hl => ?_)
    refine lv_iconst (v := (0 : Int32)) hx hb dX8_placeInTrust_8 (by decide) ?_
    refine lv_istore (lv' := [(4, .int (0 : Int32)), (3, .int (0 : Int32)), (2, .ref (ad k_2)), (0, .ref (ad 0)), (1, .int x1)]) hx hb dX8_placeInTrust_9 hl (by decide) rfl (fun ls hl => ?_)
    have hL11_2 : ∀ (n : Nat) (x3_6 : Int32) (x4_7 : Int32) (H : Heap) (locs : List Loc) (ls : Array Slot) (x3_8 : Int32), Xw D true cA ad M (AX true ad) s.heap H locs → lv_has ls 5 [(2, .ref (ad k_2)), (0, .ref (ad 0)), (1, .int x1), (3, .int x3_6), (4, .int x4_7)] → f_X8_placeInTrust_L11_2 M x1 k_2 n x3_6 x4_7 = some x3_8 → (∀ (H : Heap) (locs : List Loc) (ls : Array Slot), Xw D true cA ad M (AX true ad) s.heap H locs → lv_has ls 5 [(3, .int x3_8)] → W p l e (headSpec wsX8_placeInTrust { frames := 2, cells := 0, slots := 0, locals := 44 }).room s m args below meth c H locs 0 0 (MQ below (QiX false D true cA ad r M) args s 0 0 (AX true ad)) (F0 m 70 ls [])) → W p l e (headSpec wsX8_placeInTrust { frames := 2, cells := 0, slots := 0, locals := 44 }).room s m args below meth c H locs 0 0 (MQ below (QiX false D true cA ad r M) args s 0 0 (AX true ad)) (F0 m 11 ls []) := by
      intro n
      induction n with
      | zero =>
        intro x3_6 x4_7 H locs ls x3_8 hW hl hr hk
        exact absurd hr (by simp [f_X8_placeInTrust_L11_2])
      | succ n ih =>
        intro x3_6 x4_7 H locs ls x3_8 hW hl hr hk
        rw [f_X8_placeInTrust_L11_2] at hr
        refine lv_iload hx hb dX8_placeInTrust_11 (lv_at hl 4 rfl) ?_
        refine lv_iconst (v := (4 : Int32)) hx hb dX8_placeInTrust_13 (by decide) ?_
        refine lv_icmp_ge (tgt := 70) hx hb dX8_placeInTrust_14 (by decide) (fun c1 => ?_) (fun c1 => ?_)
        · have hr := br_p c1 hr
          have e1 := Option.some.inj hr
          subst e1
          exact hk _ _ _ hW (lv_sub hl [3] rfl)
        · have hr := br_n c1 hr
          refine lv_iload hx hb dX8_placeInTrust_17 (lv_at hl 4 rfl) ?_
          refine lv_aload_n hx hb dX8_placeInTrust_19 rfl (lv_at hl 1 rfl) ?_
          refine g8_1 hx hb hts hi8 hown hK hW (k := 0) rfl (hts _ (wm 1 rfl)) dX8_placeInTrust_20 ?_
          refine lv_icmp_ge (tgt := 70) hx hb dX8_placeInTrust_23 (by decide) (fun c1 => ?_) (fun c1 => ?_)
          · have hr := br_p c1 hr
            have e1 := Option.some.inj hr
            subst e1
            exact hk _ _ _ hW (lv_sub hl [3] rfl)
          · have hr := br_n c1 hr
            refine lv_aload_n hx hb dX8_placeInTrust_26 rfl (lv_at hl 0 rfl) ?_
            refine lv_ifnull hx hb dX8_placeInTrust_27 ?_
            refine lv_iload hx hb dX8_placeInTrust_30 (lv_at hl 4 rfl) ?_
            refine lv_iload_n hx hb dX8_placeInTrust_32 rfl (lv_at hl 2 rfl) ?_
            obtain ⟨x3_9, hr, hr3⟩ := ob1_e hr
            have hj64_9 : ∀ (H : Heap) (locs : List Loc) (ls : Array Slot), Xw D true cA ad M (AX true ad) s.heap H locs → lv_has ls 5 [(2, .ref (ad k_2)), (0, .ref (ad 0)), (1, .int x1), (4, .int x4_7), (3, .int x3_9)] → W p l e (headSpec wsX8_placeInTrust { frames := 2, cells := 0, slots := 0, locals := 44 }).room s m args below meth c H locs 0 0 (MQ below (QiX false D true cA ad r M) args s 0 0 (AX true ad)) (F0 m 64 ls []) := by
              intro H locs ls hW hl
              have hr := hr3
              obtain ⟨x4_13, ex4_13, hr⟩ := lt1_e hr
              refine lv_iinc (v := x4_13) (lv' := [(4, .int x4_13), (2, .ref (ad k_2)), (0, .ref (ad 0)), (1, .int x1), (3, .int x3_9)]) hx hb dX8_placeInTrust_64 hl (k := 3) rfl (by rw [ex4_13]; rfl) (by decide) rfl (fun ls hl => ?_)
              refine lv_goto (tgt := 11) hx hb dX8_placeInTrust_67 (by decide) ?_
              exact ih x3_9 x4_13 _ _ _ _ hW (lv_sub hl [1, 2, 3, 4, 0] rfl) hr hk
            clear hr3
            refine lv_icmp_eq (tgt := 64) hx hb dX8_placeInTrust_33 (by decide) (fun c1 => ?_) (fun c1 => ?_)
            · have hr := br_p c1 hr
              have e1 := Option.some.inj hr
              subst e1
              exact hj64_9 _ _ _ hW (lv_sub hl [0, 1, 2, 4, 3] rfl)
            · have hr := br_n c1 hr
              refine lv_aload_n hx hb dX8_placeInTrust_36 rfl (lv_at hl 1 rfl) ?_
              refine g8_0 hx hb hts hi8 hown hK hW (k := 0) rfl (hts _ (wm 2 rfl)) dX8_placeInTrust_37 ?_
              refine lv_iload hx hb dX8_placeInTrust_40 (lv_at hl 4 rfl) ?_
              obtain ⟨hn42, hr⟩ := chk_e hr
              refine xaald hx hb hK hW (k := 1) (t := 50) rfl (by decide) (by decide) rfl (t0 := 3) rfl hn42 dX8_placeInTrust_42 ?_
              refine lv_aload_n hx hb dX8_placeInTrust_43 rfl (lv_at hl 0 rfl) ?_
              refine lv_iload hx hb dX8_placeInTrust_44 (lv_at hl 4 rfl) ?_
              refine lv_iload_n hx hb dX8_placeInTrust_46 rfl (lv_at hl 2 rfl) ?_
              obtain ⟨y_10, hr, hr3⟩ := ob1_e hr
              have hj55_10 : ∀ (H : Heap) (locs : List Loc) (ls : Array Slot), Xw D true cA ad M (AX true ad) s.heap H locs → lv_has ls 5 [(2, .ref (ad k_2)), (0, .ref (ad 0)), (1, .int x1), (3, .int x3_6), (4, .int x4_7)] → W p l e (headSpec wsX8_placeInTrust { frames := 2, cells := 0, slots := 0, locals := 44 }).room s m args below meth c H locs 0 0 (MQ below (QiX false D true cA ad r M) args s 0 0 (AX true ad)) (F0 m 55 ls [.int y_10, .ref (ad k_2), .ref (ad (rid 50 1 (ix x4_7)))]) := by
                intro H locs ls hW hl
                have hr := hr3
                obtain ⟨r_11, hc55, hr⟩ := ob1_e hr
                refine xk_i (va_runV (As := [.ref (ad k_2), .int y_10]) (rest := []) ⟨hx, hb, hml, hown, hts⟩ (c_X3_isTrustedBefore l D cA ad M (rid 50 1 (ix x4_7)) k_2 y_10 (ks_50 (k := 1) rfl hn42) hk2 hc55) (cwV 2 hts gX8_placeInTrust_X3_isTrustedBefore rfl rfl rfl (by decide +kernel) ⟨Nat.le_of_ble_eq_true rfl, Nat.le_of_ble_eq_true rfl⟩) (xpreV hK hW (k := (rid 50 1 (ix x4_7))) (ks_50 (k := 1) rfl hn42) (by decide) rfl) rfl rfl hl.1 rfl (lv_room (Nat.le_of_ble_eq_true rfl)) dX8_placeInTrust_55 ⟨Nat.le_of_ble_eq_true rfl, Nat.le_of_ble_eq_true rfl⟩) hW (fun H locs hW => ?_)
                refine lv_if_eq (tgt := 64) hx hb dX8_placeInTrust_58 (by decide) (fun c1 => ?_) (fun c1 => ?_)
                · have hr := br_p c1 hr
                  have e1 := Option.some.inj hr
                  subst e1
                  exact hj64_9 _ _ _ hW (lv_sub hl [0, 1, 2, 4, 3] rfl)
                · have hr := br_n c1 hr
                  obtain ⟨x3_12, ex3_12, hr⟩ := lt1_e hr
                  refine lv_iinc (v := x3_12) (lv' := [(3, .int x3_12), (2, .ref (ad k_2)), (0, .ref (ad 0)), (1, .int x1), (4, .int x4_7)]) hx hb dX8_placeInTrust_61 hl (k := 3) rfl (by rw [ex3_12]; rfl) (by decide) rfl (fun ls hl => ?_)
                  have e1 := Option.some.inj hr
                  subst e1
                  exact hj64_9 _ _ _ hW (lv_sub hl [1, 2, 3, 4, 0] rfl)
              clear hr3
              refine lv_icmp_ge (tgt := 54) hx hb dX8_placeInTrust_47 (by decide) (fun c1 => ?_) (fun c1 => ?_)
              · have hr := br_p c1 hr
                refine lv_iconst (v := (0 : Int32)) hx hb dX8_placeInTrust_54 (by decide) ?_
                have e1 := Option.some.inj hr
                subst e1
                exact hj55_10 _ _ _ hW (lv_sub hl [0, 1, 2, 3, 4] rfl)
              · have hr := br_n c1 hr
                refine lv_iconst (v := (1 : Int32)) hx hb dX8_placeInTrust_50 (by decide) ?_
                refine lv_goto (tgt := 55) hx hb dX8_placeInTrust_51 (by decide) ?_
                have e1 := Option.some.inj hr
                subst e1
                exact hj55_10 _ _ _ hW (lv_sub hl [0, 1, 2, 3, 4] rfl)
    obtain ⟨x3_8, hr, hr3⟩ := ob1_e hr
    refine hL11_2 1000 (0 : Int32) (0 : Int32) _ _ _ x3_8 hW (lv_sub hl [2, 3, 4, 1, 0] rfl) hr (fun H locs ls hW hl => ?_)
    clear hr
    have hr := hr3
    refine lv_iload_n hx hb dX8_placeInTrust_70 rfl (lv_at hl 0 rfl) ?_
    rw [← Option.some.inj hr]
    exact xiret hx hb hr0 hlocks hW adR_rf dX8_placeInTrust_71

set_option maxHeartbeats 4000000 in
set_option maxRecDepth 100000 in
theorem c_X9_put (l : Launch) (D : va_G) (cA : Nat → ClassId) (ad : Nat → Nat) (M : Mm) (x1 : Int32) {M' : Mm} (hr : f_X9_put x1 M = some M') : Met l yX9_put wsX9_put ({ frames := 0, cells := 0, slots := 0, locals := 0 }) (PcX D true cA ad M [.ref (ad 230), .int x1]) (QvX false D true cA ad M') 0 0 (AX true ad) := by
  refine Met.ofW (cc := cX9_put) (maxL := 2) (ret := none) (by decide) rfl ?_
  intro p e s m args below meth c s₁ B hml hv
  obtain ⟨hav, hP0, hK⟩ := hv
  have hx := B.exec
  have hb := B.bytes
  have hr0 := B.returns
  have hts := atoms_spec (ws := wsX9_put) B.pre
  have hown : s.vm.findClass RX9 = some m.cls := findClass_of_methodNamed B.named
  have hlocks := B.notSynchronized
  have hW := xstart hP0
  have hi9 : ∀ w ∈ wsX90, w ∈ wsX9_put := fun w h => List.mem_cons_of_mem _ (List.mem_append_right _ h)
  have hl := lv_entry ([.ref (ad 230), .int x1]) (n := 2) (Nat.le_of_ble_eq_true rfl)
  have hef := lg_entry_eq m ([.ref (ad 230), .int x1]) 2
  rw [← hav] at hef
  rw [hef]
  clear hef
  generalize (lg_sl ([.ref (ad 230), .int x1]) ++ List.replicate (2 - (lg_sl ([.ref (ad 230), .int x1])).length) Slot.unset).toArray = ls at hl ⊢
  have hl : lv_has ls 2 [(0, .ref (ad 230)), (1, .int x1)] := hl
  clear hP0
  unfold f_X9_put at hr
  refine lv_aload_n hx hb dX9_put_0 rfl (lv_at hl 0 rfl) ?_
  refine g9_1 hx hb hts hi9 hown hK hW (k := 230) rfl (hts _ (wm 1 rfl)) dX9_put_1 ?_
  refine lv_if_lt (tgt := 36) hx hb dX9_put_4 (by decide) (fun c1 => ?_) (fun c1 => ?_)
  · have hr := br_p c1 hr
    rw [← Option.some.inj hr]
    exact xvret hx hb hr0 hlocks hW adR_rf dX9_put_36
  · have hr := br_n c1 hr
    refine lv_aload_n hx hb dX9_put_7 rfl (lv_at hl 0 rfl) ?_
    refine g9_1 hx hb hts hi9 hown hK hW (k := 230) rfl (hts _ (wm 1 rfl)) dX9_put_8 ?_
    refine lv_bipush (v := (100 : Int32)) hx hb dX9_put_11 (by decide) ?_
    refine lv_icmp_ge (tgt := 36) hx hb dX9_put_13 (by decide) (fun c1 => ?_) (fun c1 => ?_)
    · have hr := br_p c1 hr
      rw [← Option.some.inj hr]
      exact xvret hx hb hr0 hlocks hW adR_rf dX9_put_36
    · have hr := br_n c1 hr
      refine lv_aload_n hx hb dX9_put_16 rfl (lv_at hl 0 rfl) ?_
      refine g9_0 hx hb hts hi9 hown hK hW (k := 230) rfl (hts _ (wm 2 rfl)) dX9_put_17 ?_
      refine lv_aload_n hx hb dX9_put_20 rfl (lv_at hl 0 rfl) ?_
      refine g9_1 hx hb hts hi9 hown hK hW (k := 230) rfl (hts _ (wm 1 rfl)) dX9_put_21 ?_
      refine lv_iload_n hx hb dX9_put_24 rfl (lv_at hl 1 rfl) ?_
      obtain ⟨hn25, hr⟩ := chk_e hr
      obtain ⟨M_1, eM_1, hr⟩ := lt1_e hr
      refine xiast hx hb hK hW (k := 231) (t := 23) rfl (by decide) (by decide) rfl (n := 100) hn25 (jx := (ix (gI M 230 1))) rfl dX9_put_25 (fun H locs hW => ?_)
      rw [← eM_1] at hW
      refine lv_aload_n hx hb dX9_put_26 rfl (lv_at hl 0 rfl) ?_
      refine lv_dup hx hb dX9_put_27 rfl ?_
      refine g9_1 hx hb hts hi9 hown hK hW (k := 230) rfl (hts _ (wm 1 rfl)) dX9_put_28 ?_
      refine lv_iconst (v := (1 : Int32)) hx hb dX9_put_31 (by decide) ?_
      refine lv_iadd hx hb dX9_put_32 ?_
      obtain ⟨M_2, eM_2, hr⟩ := lt1_e hr
      refine p9_1 hx hb hts hi9 hown hK hW (k := 230) rfl (hts _ (wm 1 rfl)) dX9_put_33 (fun H locs hW => ?_)
      rw [← eM_2] at hW
      rw [← Option.some.inj hr]
      exact xvret hx hb hr0 hlocks hW adR_rf dX9_put_36

set_option maxHeartbeats 4000000 in
set_option maxRecDepth 100000 in
theorem c_X10_addPath (l : Launch) (D : va_G) (cA : Nat → ClassId) (ad : Nat → Nat) (M : Mm) (x1 : Int32) (x2 : Int32) (x3 : Int32) (x4 : Int32) (x5 : Int32) {r : Int32} {M' : Mm} (hr : f_X10_addPath x1 x2 x3 x4 x5 M = some (r, M')) : Met l yX10_addPath wsX10_addPath ({ frames := 4, cells := 0, slots := 0, locals := 124 }) (PcX D true cA ad M [.ref (ad 224), .int x1, .int x2, .int x3, .int x4, .int x5]) (QiX true D true cA ad r M') 0 0 (AX true ad) := by
  refine Met.ofW (cc := cX10_addPath) (maxL := 8) (ret := (some .int)) (by decide) rfl ?_
  intro p e s m args below meth c s₁ B hml hv
  obtain ⟨hav, hP0, hK⟩ := hv
  have hx := B.exec
  have hb := B.bytes
  have hr0 := B.returns
  have hts := atoms_spec (ws := wsX10_addPath) B.pre
  have hown : s.vm.findClass RX10 = some m.cls := findClass_of_methodNamed B.named
  have hlocks := B.notSynchronized
  have hW := xstart hP0
  have hi8 : ∀ w ∈ wsX80, w ∈ wsX10_addPath := fun w h => List.mem_cons_of_mem _ (List.mem_append_left _ (List.mem_append_left _ (List.mem_append_left _ (List.mem_append_left _ (List.mem_append_left _ (List.mem_append_left _ (List.mem_append_right _ h)))))))
  have hi10 : ∀ w ∈ wsX100, w ∈ wsX10_addPath := fun w h => List.mem_cons_of_mem _ (List.mem_append_left _ (List.mem_append_left _ (List.mem_append_left _ (List.mem_append_left _ (List.mem_append_left _ (List.mem_append_left _ (List.mem_append_left _ (List.mem_append_right _ h))))))))
  have hl := lv_entry ([.ref (ad 224), .int x1, .int x2, .int x3, .int x4, .int x5]) (n := 8) (Nat.le_of_ble_eq_true rfl)
  have hef := lg_entry_eq m ([.ref (ad 224), .int x1, .int x2, .int x3, .int x4, .int x5]) 8
  rw [← hav] at hef
  rw [hef]
  clear hef
  generalize (lg_sl ([.ref (ad 224), .int x1, .int x2, .int x3, .int x4, .int x5]) ++ List.replicate (8 - (lg_sl ([.ref (ad 224), .int x1, .int x2, .int x3, .int x4, .int x5])).length) Slot.unset).toArray = ls at hl ⊢
  have hl : lv_has ls 8 [(0, .ref (ad 224)), (1, .int x1), (2, .int x2), (3, .int x3), (4, .int x4), (5, .int x5)] := hl
  clear hP0
  unfold f_X10_addPath at hr
  refine lv_iload_n hx hb dX10_addPath_0 rfl (lv_at hl 1 rfl) ?_
  refine lv_bipush (v := (50 : Int32)) hx hb dX10_addPath_1 (by decide) ?_
  refine lv_sipush (v := (2000 : Int32)) hx hb dX10_addPath_3 (by decide) ?_
  obtain ⟨r_1, hc6, hr⟩ := ob1_e hr
  refine xk_i (va_runS (As := [.int x1, .int (50 : Int32), .int (2000 : Int32)]) (rest := []) ⟨hx, hb, hml, hown, hts⟩ (c_X10_isWithin l D cA ad M x1 (50 : Int32) (2000 : Int32) hc6) (va_cwS 3 hts gX10_addPath_X10_isWithin rfl rfl rfl (by decide +kernel) ⟨Nat.le_of_ble_eq_true rfl, Nat.le_of_ble_eq_true rfl⟩) (xpreS hK hW) rfl rfl hl.1 rfl (lv_room (Nat.le_of_ble_eq_true rfl)) dX10_addPath_6 ⟨Nat.le_of_ble_eq_true rfl, Nat.le_of_ble_eq_true rfl⟩) hW (fun H locs hW => ?_)
  obtain ⟨y_2, hr, hr3⟩ := ob1_e hr
  have hj63_2 : ∀ (H : Heap) (locs : List Loc) (ls : Array Slot), Xw D true cA ad M (AX true ad) s.heap H locs → lv_has ls 8 [(0, .ref (ad 224)), (1, .int x1), (2, .int x2), (3, .int x3), (4, .int x4), (5, .int x5)] → W p l e (headSpec wsX10_addPath { frames := 4, cells := 0, slots := 0, locals := 124 }).room s m args below meth c H locs 0 0 (MQ below (QiX true D true cA ad r M') args s 0 0 (AX true ad)) (F0 m 63 ls [.int y_2]) := by
    intro H locs ls hW hl
    have hr := hr3
    refine lv_istore (lv' := [(6, .int y_2), (0, .ref (ad 224)), (1, .int x1), (2, .int x2), (3, .int x3), (4, .int x4), (5, .int x5)]) hx hb dX10_addPath_63 hl (by decide) rfl (fun ls hl => ?_)
    refine lv_iload hx hb dX10_addPath_65 (lv_at hl 0 rfl) ?_
    refine lv_if_ne (tgt := 73) hx hb dX10_addPath_67 (by decide) (fun c1 => ?_) (fun c1 => ?_)
    · have hr := br_n c1 hr
      refine lv_aload_n hx hb dX10_addPath_73 rfl (lv_at hl 1 rfl) ?_
      refine g10_0 hx hb hts hi10 hown hK hW (k := 224) rfl (hts _ (wm 2 rfl)) dX10_addPath_74 ?_
      refine g8_1 hx hb hts hi8 hown hK hW (k := 0) rfl (hts _ (wm 3 rfl)) dX10_addPath_77 ?_
      obtain ⟨x7_7, ex7_7, hr⟩ := lt1_e hr
      rw [← ex7_7]
      refine lv_istore (lv' := [(7, .int x7_7), (6, .int y_2), (0, .ref (ad 224)), (1, .int x1), (2, .int x2), (3, .int x3), (4, .int x4), (5, .int x5)]) hx hb dX10_addPath_80 hl (by decide) rfl (fun ls hl => ?_)
      refine lv_iload hx hb dX10_addPath_82 (lv_at hl 0 rfl) ?_
      refine lv_if_lt (tgt := 93) hx hb dX10_addPath_84 (by decide) (fun c1 => ?_) (fun c1 => ?_)
      · have hr := br_p c1 hr
        refine lv_ldc (v := (-2000000004 : Int32)) hx hb hown (hts _ (wm 4 rfl)) dX10_addPath_93 ?_
        obtain ⟨e1, e2⟩ := Prod.mk.inj (Option.some.inj hr)
        rw [← e1, ← e2]
        exact xiret hx hb hr0 hlocks hW adR_rf dX10_addPath_95
      · have hr := br_n c1 hr
        refine lv_iload hx hb dX10_addPath_87 (lv_at hl 0 rfl) ?_
        refine lv_iconst (v := (4 : Int32)) hx hb dX10_addPath_89 (by decide) ?_
        refine lv_icmp_lt (tgt := 96) hx hb dX10_addPath_90 (by decide) (fun c1 => ?_) (fun c1 => ?_)
        · have hr := br_p c1 hr
          refine lv_aload_n hx hb dX10_addPath_96 rfl (lv_at hl 2 rfl) ?_
          refine g10_1 hx hb hts hi10 hown hK hW (k := 224) rfl (hts _ (wm 5 rfl)) dX10_addPath_97 ?_
          refine lv_aload_n hx hb dX10_addPath_100 rfl (lv_at hl 2 rfl) ?_
          refine g10_0 hx hb hts hi10 hown hK hW (k := 224) rfl (hts _ (wm 2 rfl)) dX10_addPath_101 ?_
          obtain ⟨M_8, hc104, hr⟩ := ob1_e hr
          refine xc_v (va_runV (As := [.ref (ad 0)]) (rest := []) ⟨hx, hb, hml, hown, hts⟩ (c_X1_push l D cA ad M hc104) (cwV 1 hts gX10_addPath_X1_push rfl rfl rfl (by decide +kernel) ⟨Nat.le_of_ble_eq_true rfl, Nat.le_of_ble_eq_true rfl⟩) (xpreV hK hW (k := 225) rfl (by decide) rfl) rfl rfl hl.1 rfl (lv_room (Nat.le_of_ble_eq_true rfl)) dX10_addPath_104 ⟨Nat.le_of_ble_eq_true rfl, Nat.le_of_ble_eq_true rfl⟩) hW (fun ad_9 H locs had2 hW => ?_)
          rw [← had2.1 224 rfl] at hl
          have had := had2
          refine lv_aload_n hx hb dX10_addPath_107 rfl (lv_at hl 2 rfl) ?_
          refine g10_0 hx hb hts hi10 hown hK hW (k := 224) rfl (hts _ (wm 2 rfl)) dX10_addPath_108 ?_
          refine g8_0 hx hb hts hi8 hown hK hW (k := 0) rfl (hts _ (wm 6 rfl)) dX10_addPath_111 ?_
          refine lv_iload hx hb dX10_addPath_114 (lv_at hl 0 rfl) ?_
          obtain ⟨hn116, hr⟩ := chk_e hr
          refine xaald hx hb hK hW (k := 1) (t := 50) rfl (by decide) (by decide) rfl (t0 := 3) rfl hn116 dX10_addPath_116 ?_
          refine lv_iload_n hx hb dX10_addPath_117 rfl (lv_at hl 3 rfl) ?_
          refine lv_iload_n hx hb dX10_addPath_118 rfl (lv_at hl 4 rfl) ?_
          refine lv_iload_n hx hb dX10_addPath_119 rfl (lv_at hl 5 rfl) ?_
          refine lv_iload hx hb dX10_addPath_120 (lv_at hl 6 rfl) ?_
          refine lv_iload hx hb dX10_addPath_122 (lv_at hl 7 rfl) ?_
          obtain ⟨M_10, hc124, hr⟩ := ob1_e hr
          refine xk_v (va_runV (As := [.int x1, .int x2, .int x3, .int x4, .int x5]) (rest := []) ⟨hx, hb, hml, hown, hts⟩ (c_X3_begin l D cA ad_9 M_8 (rid 50 1 (ix x7_7)) x1 x2 x3 x4 x5 (ks_50 (k := 1) rfl hn116) hc124) (cwV 5 hts gX10_addPath_X3_begin rfl rfl rfl (by decide +kernel) ⟨Nat.le_of_ble_eq_true rfl, Nat.le_of_ble_eq_true rfl⟩) (xpreV hK hW (k := (rid 50 1 (ix x7_7))) (ks_50 (k := 1) rfl hn116) (by decide) rfl) rfl rfl hl.1 rfl (lv_room (Nat.le_of_ble_eq_true rfl)) dX10_addPath_124 ⟨Nat.le_of_ble_eq_true rfl, Nat.le_of_ble_eq_true rfl⟩) hW (fun H locs hW => ?_)
          refine lv_aload_n hx hb dX10_addPath_127 rfl (lv_at hl 2 rfl) ?_
          refine g10_0 hx hb hts hi10 hown hK hW (k := 224) rfl (hts _ (wm 2 rfl)) dX10_addPath_128 ?_
          refine lv_iload hx hb dX10_addPath_131 (lv_at hl 0 rfl) ?_
          refine lv_iconst (v := (1 : Int32)) hx hb dX10_addPath_133 (by decide) ?_
          refine lv_iadd hx hb dX10_addPath_134 ?_
          obtain ⟨M_11, eM_11, hr⟩ := lt1_e hr
          refine p8_1 hx hb hts hi8 hown hK hW (k := 0) rfl (hts _ (wm 3 rfl)) dX10_addPath_135 (fun H locs hW => ?_)
          rw [← eM_11] at hW
          refine lv_iload hx hb dX10_addPath_138 (lv_at hl 0 rfl) ?_
          obtain ⟨e1, e2⟩ := Prod.mk.inj (Option.some.inj hr)
          rw [← e1, ← e2]
          exact xiret hx hb hr0 hlocks hW had dX10_addPath_140
        · have hr := br_n c1 hr
          refine lv_ldc (v := (-2000000004 : Int32)) hx hb hown (hts _ (wm 4 rfl)) dX10_addPath_93 ?_
          obtain ⟨e1, e2⟩ := Prod.mk.inj (Option.some.inj hr)
          rw [← e1, ← e2]
          exact xiret hx hb hr0 hlocks hW adR_rf dX10_addPath_95
    · have hr := br_p c1 hr
      refine lv_ldc (v := (-2000000002 : Int32)) hx hb hown (hts _ (wm 1 rfl)) dX10_addPath_70 ?_
      obtain ⟨e1, e2⟩ := Prod.mk.inj (Option.some.inj hr)
      rw [← e1, ← e2]
      exact xiret hx hb hr0 hlocks hW adR_rf dX10_addPath_72
  clear hr3
  refine lv_if_eq (tgt := 62) hx hb dX10_addPath_9 (by decide) (fun c1 => ?_) (fun c1 => ?_)
  · have hr := br_p c1 hr
    refine lv_iconst (v := (0 : Int32)) hx hb dX10_addPath_62 (by decide) ?_
    have e1 := Option.some.inj hr
    subst e1
    exact hj63_2 _ _ _ hW (lv_sub hl [0, 1, 2, 3, 4, 5] rfl)
  · have hr := br_n c1 hr
    refine lv_iload_n hx hb dX10_addPath_12 rfl (lv_at hl 2 rfl) ?_
    refine lv_bipush (v := (10 : Int32)) hx hb dX10_addPath_13 (by decide) ?_
    refine lv_iload_n hx hb dX10_addPath_15 rfl (lv_at hl 1 rfl) ?_
    obtain ⟨r_3, hc16, hr⟩ := ob1_e hr
    refine xk_i (va_runS (As := [.int x2, .int (10 : Int32), .int x1]) (rest := []) ⟨hx, hb, hml, hown, hts⟩ (c_X10_isWithin l D cA ad M x2 (10 : Int32) x1 hc16) (va_cwS 3 hts gX10_addPath_X10_isWithin rfl rfl rfl (by decide +kernel) ⟨Nat.le_of_ble_eq_true rfl, Nat.le_of_ble_eq_true rfl⟩) (xpreS hK hW) rfl rfl hl.1 rfl (lv_room (Nat.le_of_ble_eq_true rfl)) dX10_addPath_16 ⟨Nat.le_of_ble_eq_true rfl, Nat.le_of_ble_eq_true rfl⟩) hW (fun H locs hW => ?_)
    refine lv_if_eq (tgt := 62) hx hb dX10_addPath_19 (by decide) (fun c1 => ?_) (fun c1 => ?_)
    · have hr := br_p c1 hr
      refine lv_iconst (v := (0 : Int32)) hx hb dX10_addPath_62 (by decide) ?_
      have e1 := Option.some.inj hr
      subst e1
      exact hj63_2 _ _ _ hW (lv_sub hl [0, 1, 2, 3, 4, 5] rfl)
    · have hr := br_n c1 hr
      refine lv_iload_n hx hb dX10_addPath_22 rfl (lv_at hl 3 rfl) ?_
      refine lv_iconst (v := (1 : Int32)) hx hb dX10_addPath_23 (by decide) ?_
      refine lv_sipush (v := (1000 : Int32)) hx hb dX10_addPath_24 (by decide) ?_
      obtain ⟨r_4, hc27, hr⟩ := ob1_e hr
      refine xk_i (va_runS (As := [.int x3, .int (1 : Int32), .int (1000 : Int32)]) (rest := []) ⟨hx, hb, hml, hown, hts⟩ (c_X10_isWithin l D cA ad M x3 (1 : Int32) (1000 : Int32) hc27) (va_cwS 3 hts gX10_addPath_X10_isWithin rfl rfl rfl (by decide +kernel) ⟨Nat.le_of_ble_eq_true rfl, Nat.le_of_ble_eq_true rfl⟩) (xpreS hK hW) rfl rfl hl.1 rfl (lv_room (Nat.le_of_ble_eq_true rfl)) dX10_addPath_27 ⟨Nat.le_of_ble_eq_true rfl, Nat.le_of_ble_eq_true rfl⟩) hW (fun H locs hW => ?_)
      refine lv_if_eq (tgt := 62) hx hb dX10_addPath_30 (by decide) (fun c1 => ?_) (fun c1 => ?_)
      · have hr := br_p c1 hr
        refine lv_iconst (v := (0 : Int32)) hx hb dX10_addPath_62 (by decide) ?_
        have e1 := Option.some.inj hr
        subst e1
        exact hj63_2 _ _ _ hW (lv_sub hl [0, 1, 2, 3, 4, 5] rfl)
      · have hr := br_n c1 hr
        refine lv_iload hx hb dX10_addPath_33 (lv_at hl 4 rfl) ?_
        refine lv_bipush (v := (100 : Int32)) hx hb dX10_addPath_35 (by decide) ?_
        refine lv_sipush (v := (10000 : Int32)) hx hb dX10_addPath_37 (by decide) ?_
        obtain ⟨r_5, hc40, hr⟩ := ob1_e hr
        refine xk_i (va_runS (As := [.int x4, .int (100 : Int32), .int (10000 : Int32)]) (rest := []) ⟨hx, hb, hml, hown, hts⟩ (c_X10_isWithin l D cA ad M x4 (100 : Int32) (10000 : Int32) hc40) (va_cwS 3 hts gX10_addPath_X10_isWithin rfl rfl rfl (by decide +kernel) ⟨Nat.le_of_ble_eq_true rfl, Nat.le_of_ble_eq_true rfl⟩) (xpreS hK hW) rfl rfl hl.1 rfl (lv_room (Nat.le_of_ble_eq_true rfl)) dX10_addPath_40 ⟨Nat.le_of_ble_eq_true rfl, Nat.le_of_ble_eq_true rfl⟩) hW (fun H locs hW => ?_)
        refine lv_if_eq (tgt := 62) hx hb dX10_addPath_43 (by decide) (fun c1 => ?_) (fun c1 => ?_)
        · have hr := br_p c1 hr
          refine lv_iconst (v := (0 : Int32)) hx hb dX10_addPath_62 (by decide) ?_
          have e1 := Option.some.inj hr
          subst e1
          exact hj63_2 _ _ _ hW (lv_sub hl [0, 1, 2, 3, 4, 5] rfl)
        · have hr := br_n c1 hr
          refine lv_iload hx hb dX10_addPath_46 (lv_at hl 5 rfl) ?_
          refine lv_iconst (v := (0 : Int32)) hx hb dX10_addPath_48 (by decide) ?_
          refine lv_sipush (v := (5000 : Int32)) hx hb dX10_addPath_49 (by decide) ?_
          obtain ⟨r_6, hc52, hr⟩ := ob1_e hr
          refine xk_i (va_runS (As := [.int x5, .int (0 : Int32), .int (5000 : Int32)]) (rest := []) ⟨hx, hb, hml, hown, hts⟩ (c_X10_isWithin l D cA ad M x5 (0 : Int32) (5000 : Int32) hc52) (va_cwS 3 hts gX10_addPath_X10_isWithin rfl rfl rfl (by decide +kernel) ⟨Nat.le_of_ble_eq_true rfl, Nat.le_of_ble_eq_true rfl⟩) (xpreS hK hW) rfl rfl hl.1 rfl (lv_room (Nat.le_of_ble_eq_true rfl)) dX10_addPath_52 ⟨Nat.le_of_ble_eq_true rfl, Nat.le_of_ble_eq_true rfl⟩) hW (fun H locs hW => ?_)
          refine lv_if_eq (tgt := 62) hx hb dX10_addPath_55 (by decide) (fun c1 => ?_) (fun c1 => ?_)
          · have hr := br_p c1 hr
            refine lv_iconst (v := (0 : Int32)) hx hb dX10_addPath_62 (by decide) ?_
            have e1 := Option.some.inj hr
            subst e1
            exact hj63_2 _ _ _ hW (lv_sub hl [0, 1, 2, 3, 4, 5] rfl)
          · have hr := br_n c1 hr
            refine lv_iconst (v := (1 : Int32)) hx hb dX10_addPath_58 (by decide) ?_
            refine lv_goto (tgt := 63) hx hb dX10_addPath_59 (by decide) ?_
            have e1 := Option.some.inj hr
            subst e1
            exact hj63_2 _ _ _ hW (lv_sub hl [0, 1, 2, 3, 4, 5] rfl)

set_option maxHeartbeats 4000000 in
set_option maxRecDepth 100000 in
theorem c_X10_setWeight (l : Launch) (D : va_G) (cA : Nat → ClassId) (ad : Nat → Nat) (M : Mm) (x1 : Int32) (x2 : Int32) {r : Int32} {M' : Mm} (hr : f_X10_setWeight x1 x2 M = some (r, M')) : Met l yX10_setWeight wsX10_setWeight ({ frames := 4, cells := 0, slots := 0, locals := 124 }) (PcX D true cA ad M [.ref (ad 224), .int x1, .int x2]) (QiX true D true cA ad r M') 0 0 (AX true ad) := by
  refine Met.ofW (cc := cX10_setWeight) (maxL := 5) (ret := (some .int)) (by decide) rfl ?_
  intro p e s m args below meth c s₁ B hml hv
  obtain ⟨hav, hP0, hK⟩ := hv
  have hx := B.exec
  have hb := B.bytes
  have hr0 := B.returns
  have hts := atoms_spec (ws := wsX10_setWeight) B.pre
  have hown : s.vm.findClass RX10 = some m.cls := findClass_of_methodNamed B.named
  have hlocks := B.notSynchronized
  have hW := xstart hP0
  have hi3 : ∀ w ∈ wsX30, w ∈ wsX10_setWeight := fun w h => List.mem_cons_of_mem _ (List.mem_append_left _ (List.mem_append_left _ (List.mem_append_left _ (List.mem_append_left _ (List.mem_append_left _ (List.mem_append_left _ (List.mem_append_right _ h)))))))
  have hi10 : ∀ w ∈ wsX100, w ∈ wsX10_setWeight := fun w h => List.mem_cons_of_mem _ (List.mem_append_left _ (List.mem_append_left _ (List.mem_append_left _ (List.mem_append_left _ (List.mem_append_left _ (List.mem_append_left _ (List.mem_append_left _ (List.mem_append_right _ h))))))))
  have hl := lv_entry ([.ref (ad 224), .int x1, .int x2]) (n := 5) (Nat.le_of_ble_eq_true rfl)
  have hef := lg_entry_eq m ([.ref (ad 224), .int x1, .int x2]) 5
  rw [← hav] at hef
  rw [hef]
  clear hef
  generalize (lg_sl ([.ref (ad 224), .int x1, .int x2]) ++ List.replicate (5 - (lg_sl ([.ref (ad 224), .int x1, .int x2])).length) Slot.unset).toArray = ls at hl ⊢
  have hl : lv_has ls 5 [(0, .ref (ad 224)), (1, .int x1), (2, .int x2)] := hl
  clear hP0
  unfold f_X10_setWeight at hr
  refine lv_aload_n hx hb dX10_setWeight_0 rfl (lv_at hl 0 rfl) ?_
  refine g10_0 hx hb hts hi10 hown hK hW (k := 224) rfl (hts _ (wm 1 rfl)) dX10_setWeight_1 ?_
  refine lv_iload_n hx hb dX10_setWeight_4 rfl (lv_at hl 1 rfl) ?_
  obtain ⟨r_1, hc5, hr⟩ := ob1_e hr
  refine xk_q (va_runV (As := [.int x1]) (rest := []) ⟨hx, hb, hml, hown, hts⟩ (c_X8_pathAt l D cA ad M x1 hc5) (cwV 1 hts gX10_setWeight_X8_pathAt rfl rfl rfl (by decide +kernel) ⟨Nat.le_of_ble_eq_true rfl, Nat.le_of_ble_eq_true rfl⟩) (xpreV hK hW (k := 0) rfl (by decide) rfl) rfl rfl hl.1 rfl (lv_room (Nat.le_of_ble_eq_true rfl)) dX10_setWeight_5 ⟨Nat.le_of_ble_eq_true rfl, Nat.le_of_ble_eq_true rfl⟩) hW (fun H locs hW => ?_)
  cases r_1 with
  | none =>
    have hr : _ = _ := hr
    simp only [onl] at hr
    refine lv_astore_nN (lv' := [(3, .null), (0, .ref (ad 224)), (1, .int x1), (2, .int x2)]) hx hb dX10_setWeight_8 rfl hl (by decide) rfl (fun ls hl => ?_)
    refine lv_aload_nN hx hb dX10_setWeight_9 rfl (lv_at hl 0 rfl) ?_
    refine lv_ifnonnullN hx hb dX10_setWeight_10 ?_
    refine lv_ldc (v := (-2000000001 : Int32)) hx hb hown (hts _ (wm 2 rfl)) dX10_setWeight_13 ?_
    obtain ⟨e1, e2⟩ := Prod.mk.inj (Option.some.inj hr)
    rw [← e1, ← e2]
    exact xiret hx hb hr0 hlocks hW adR_rf dX10_setWeight_15
  | some k_2 =>
    simp only [onl] at hr
    obtain ⟨hk5, hr⟩ := chk_e hr
    have hk5 := of_decide_eq_true hk5
    refine lv_astore_n (lv' := [(3, .ref (ad k_2)), (0, .ref (ad 224)), (1, .int x1), (2, .int x2)]) hx hb dX10_setWeight_8 rfl hl (by decide) rfl (fun ls hl => ?_)
    refine lv_aload_n hx hb dX10_setWeight_9 rfl (lv_at hl 0 rfl) ?_
    refine lv_ifnonnull (tgt := 16) hx hb dX10_setWeight_10 (by decide) ?_
    refine lv_iload_n hx hb dX10_setWeight_16 rfl (lv_at hl 3 rfl) ?_
    refine lv_iconst (v := (1 : Int32)) hx hb dX10_setWeight_17 (by decide) ?_
    refine lv_sipush (v := (1000 : Int32)) hx hb dX10_setWeight_18 (by decide) ?_
    obtain ⟨r_3, hc21, hr⟩ := ob1_e hr
    refine xk_i (va_runS (As := [.int x2, .int (1 : Int32), .int (1000 : Int32)]) (rest := []) ⟨hx, hb, hml, hown, hts⟩ (c_X10_isWithin l D cA ad M x2 (1 : Int32) (1000 : Int32) hc21) (va_cwS 3 hts gX10_setWeight_X10_isWithin rfl rfl rfl (by decide +kernel) ⟨Nat.le_of_ble_eq_true rfl, Nat.le_of_ble_eq_true rfl⟩) (xpreS hK hW) rfl rfl hl.1 rfl (lv_room (Nat.le_of_ble_eq_true rfl)) dX10_setWeight_21 ⟨Nat.le_of_ble_eq_true rfl, Nat.le_of_ble_eq_true rfl⟩) hW (fun H locs hW => ?_)
    refine lv_if_ne (tgt := 30) hx hb dX10_setWeight_24 (by decide) (fun c1 => ?_) (fun c1 => ?_)
    · have hr := br_n c1 hr
      refine lv_aload_n hx hb dX10_setWeight_30 rfl (lv_at hl 1 rfl) ?_
      refine g10_1 hx hb hts hi10 hown hK hW (k := 224) rfl (hts _ (wm 4 rfl)) dX10_setWeight_31 ?_
      refine lv_aload_n hx hb dX10_setWeight_34 rfl (lv_at hl 1 rfl) ?_
      refine g10_0 hx hb hts hi10 hown hK hW (k := 224) rfl (hts _ (wm 1 rfl)) dX10_setWeight_35 ?_
      obtain ⟨hst38_3, hr⟩ := chk_e hr
      obtain ⟨M_4, hc38, hr⟩ := ob1_e hr
      refine xc_v (va_runV (As := [.ref (ad 0)]) (rest := []) ⟨hx, hb, hml, hown, hts⟩ (c_X1_push l D cA ad M hc38) (cwV 1 hts gX10_setWeight_X1_push rfl rfl rfl (by decide +kernel) ⟨Nat.le_of_ble_eq_true rfl, Nat.le_of_ble_eq_true rfl⟩) (xpreV hK hW (k := 225) rfl (by decide) rfl) rfl rfl hl.1 rfl (lv_room (Nat.le_of_ble_eq_true rfl)) dX10_setWeight_38 ⟨Nat.le_of_ble_eq_true rfl, Nat.le_of_ble_eq_true rfl⟩) hW (fun ad_5 H locs had2 hW => ?_)
      have hl := lv_sub (l' := [(3, .ref (ad k_2)), (1, .int x1), (2, .int x2)]) hl [0, 2, 3] rfl
      rw [← had2.1 k_2 hst38_3] at hl
      have had := had2
      refine lv_aload_n hx hb dX10_setWeight_41 rfl (lv_at hl 0 rfl) ?_
      refine g3_2 hx hb hts hi3 hown hK hW (k := k_2) hk5 (hts _ (wm 5 rfl)) dX10_setWeight_42 ?_
      obtain ⟨x4_6, ex4_6, hr⟩ := lt1_e hr
      rw [← ex4_6]
      refine lv_istore (lv' := [(4, .int x4_6), (3, .ref (ad_5 k_2)), (1, .int x1), (2, .int x2)]) hx hb dX10_setWeight_45 hl (by decide) rfl (fun ls hl => ?_)
      refine lv_aload_n hx hb dX10_setWeight_47 rfl (lv_at hl 1 rfl) ?_
      refine lv_iload_n hx hb dX10_setWeight_48 rfl (lv_at hl 3 rfl) ?_
      obtain ⟨M_7, eM_7, hr⟩ := lt1_e hr
      refine p3_2 hx hb hts hi3 hown hK hW (k := k_2) hk5 (hts _ (wm 5 rfl)) dX10_setWeight_49 (fun H locs hW => ?_)
      rw [← eM_7] at hW
      refine lv_iload hx hb dX10_setWeight_52 (lv_at hl 0 rfl) ?_
      obtain ⟨e1, e2⟩ := Prod.mk.inj (Option.some.inj hr)
      rw [← e1, ← e2]
      exact xiret hx hb hr0 hlocks hW had dX10_setWeight_54
    · have hr := br_p c1 hr
      refine lv_ldc (v := (-2000000002 : Int32)) hx hb hown (hts _ (wm 3 rfl)) dX10_setWeight_27 ?_
      obtain ⟨e1, e2⟩ := Prod.mk.inj (Option.some.inj hr)
      rw [← e1, ← e2]
      exact xiret hx hb hr0 hlocks hW adR_rf dX10_setWeight_29

set_option maxHeartbeats 4000000 in
set_option maxRecDepth 100000 in
theorem c_X10_setPoint (l : Launch) (D : va_G) (cA : Nat → ClassId) (ad : Nat → Nat) (M : Mm) (x1 : Int32) (x2 : Int32) {r : Int32} {M' : Mm} (hr : f_X10_setPoint x1 x2 M = some (r, M')) : Met l yX10_setPoint wsX10_setPoint ({ frames := 4, cells := 0, slots := 0, locals := 124 }) (PcX D true cA ad M [.ref (ad 224), .int x1, .int x2]) (QiX true D true cA ad r M') 0 0 (AX true ad) := by
  refine Met.ofW (cc := cX10_setPoint) (maxL := 4) (ret := (some .int)) (by decide) rfl ?_
  intro p e s m args below meth c s₁ B hml hv
  obtain ⟨hav, hP0, hK⟩ := hv
  have hx := B.exec
  have hb := B.bytes
  have hr0 := B.returns
  have hts := atoms_spec (ws := wsX10_setPoint) B.pre
  have hown : s.vm.findClass RX10 = some m.cls := findClass_of_methodNamed B.named
  have hlocks := B.notSynchronized
  have hW := xstart hP0
  have hi4 : ∀ w ∈ wsX40, w ∈ wsX10_setPoint := fun w h => List.mem_cons_of_mem _ (List.mem_append_left _ (List.mem_append_left _ (List.mem_append_left _ (List.mem_append_left _ (List.mem_append_left _ (List.mem_append_right _ h))))))
  have hi8 : ∀ w ∈ wsX80, w ∈ wsX10_setPoint := fun w h => List.mem_cons_of_mem _ (List.mem_append_left _ (List.mem_append_left _ (List.mem_append_left _ (List.mem_append_left _ (List.mem_append_left _ (List.mem_append_left _ (List.mem_append_right _ h)))))))
  have hi10 : ∀ w ∈ wsX100, w ∈ wsX10_setPoint := fun w h => List.mem_cons_of_mem _ (List.mem_append_left _ (List.mem_append_left _ (List.mem_append_left _ (List.mem_append_left _ (List.mem_append_left _ (List.mem_append_left _ (List.mem_append_left _ (List.mem_append_right _ h))))))))
  have hl := lv_entry ([.ref (ad 224), .int x1, .int x2]) (n := 4) (Nat.le_of_ble_eq_true rfl)
  have hef := lg_entry_eq m ([.ref (ad 224), .int x1, .int x2]) 4
  rw [← hav] at hef
  rw [hef]
  clear hef
  generalize (lg_sl ([.ref (ad 224), .int x1, .int x2]) ++ List.replicate (4 - (lg_sl ([.ref (ad 224), .int x1, .int x2])).length) Slot.unset).toArray = ls at hl ⊢
  have hl : lv_has ls 4 [(0, .ref (ad 224)), (1, .int x1), (2, .int x2)] := hl
  clear hP0
  unfold f_X10_setPoint at hr
  refine lv_iload_n hx hb dX10_setPoint_0 rfl (lv_at hl 1 rfl) ?_
  refine lv_iconst (v := (0 : Int32)) hx hb dX10_setPoint_1 (by decide) ?_
  refine lv_ldc (v := (100000 : Int32)) hx hb hown (hts _ (wm 1 rfl)) dX10_setPoint_2 ?_
  obtain ⟨r_1, hc4, hr⟩ := ob1_e hr
  refine xk_i (va_runS (As := [.int x1, .int (0 : Int32), .int (100000 : Int32)]) (rest := []) ⟨hx, hb, hml, hown, hts⟩ (c_X10_isWithin l D cA ad M x1 (0 : Int32) (100000 : Int32) hc4) (va_cwS 3 hts gX10_setPoint_X10_isWithin rfl rfl rfl (by decide +kernel) ⟨Nat.le_of_ble_eq_true rfl, Nat.le_of_ble_eq_true rfl⟩) (xpreS hK hW) rfl rfl hl.1 rfl (lv_room (Nat.le_of_ble_eq_true rfl)) dX10_setPoint_4 ⟨Nat.le_of_ble_eq_true rfl, Nat.le_of_ble_eq_true rfl⟩) hW (fun H locs hW => ?_)
  refine lv_if_eq (tgt := 23) hx hb dX10_setPoint_7 (by decide) (fun c1 => ?_) (fun c1 => ?_)
  · have hr := br_p c1 hr
    refine lv_ldc (v := (-2000000002 : Int32)) hx hb hown (hts _ (wm 2 rfl)) dX10_setPoint_23 ?_
    obtain ⟨e1, e2⟩ := Prod.mk.inj (Option.some.inj hr)
    rw [← e1, ← e2]
    exact xiret hx hb hr0 hlocks hW adR_rf dX10_setPoint_25
  · have hr := br_n c1 hr
    refine lv_iload_n hx hb dX10_setPoint_10 rfl (lv_at hl 2 rfl) ?_
    refine lv_sipush (v := (500 : Int32)) hx hb dX10_setPoint_11 (by decide) ?_
    refine lv_sipush (v := (1500 : Int32)) hx hb dX10_setPoint_14 (by decide) ?_
    obtain ⟨r_2, hc17, hr⟩ := ob1_e hr
    refine xk_i (va_runS (As := [.int x2, .int (500 : Int32), .int (1500 : Int32)]) (rest := []) ⟨hx, hb, hml, hown, hts⟩ (c_X10_isWithin l D cA ad M x2 (500 : Int32) (1500 : Int32) hc17) (va_cwS 3 hts gX10_setPoint_X10_isWithin rfl rfl rfl (by decide +kernel) ⟨Nat.le_of_ble_eq_true rfl, Nat.le_of_ble_eq_true rfl⟩) (xpreS hK hW) rfl rfl hl.1 rfl (lv_room (Nat.le_of_ble_eq_true rfl)) dX10_setPoint_17 ⟨Nat.le_of_ble_eq_true rfl, Nat.le_of_ble_eq_true rfl⟩) hW (fun H locs hW => ?_)
    refine lv_if_ne (tgt := 26) hx hb dX10_setPoint_20 (by decide) (fun c1 => ?_) (fun c1 => ?_)
    · have hr := br_n c1 hr
      refine lv_aload_n hx hb dX10_setPoint_26 rfl (lv_at hl 0 rfl) ?_
      refine g10_0 hx hb hts hi10 hown hK hW (k := 224) rfl (hts _ (wm 3 rfl)) dX10_setPoint_27 ?_
      refine g8_2 hx hb hts hi8 hown hK hW (k := 0) rfl (hts _ (wm 4 rfl)) dX10_setPoint_30 ?_
      refine lv_astore_n (lv' := [(3, .ref (ad 10)), (0, .ref (ad 224)), (1, .int x1), (2, .int x2)]) hx hb dX10_setPoint_33 rfl hl (by decide) rfl (fun ls hl => ?_)
      refine lv_aload_n hx hb dX10_setPoint_34 rfl (lv_at hl 0 rfl) ?_
      refine lv_iload_n hx hb dX10_setPoint_35 rfl (lv_at hl 2 rfl) ?_
      obtain ⟨r_3, hc36, hr⟩ := ob1_e hr
      refine xk_i (va_runV (As := [.int x1]) (rest := []) ⟨hx, hb, hml, hown, hts⟩ (c_X4_find l D cA ad M x1 hc36) (cwV 1 hts gX10_setPoint_X4_find rfl rfl rfl (by decide +kernel) ⟨Nat.le_of_ble_eq_true rfl, Nat.le_of_ble_eq_true rfl⟩) (xpreV hK hW (k := 10) rfl (by decide) rfl) rfl rfl hl.1 rfl (lv_room (Nat.le_of_ble_eq_true rfl)) dX10_setPoint_36 ⟨Nat.le_of_ble_eq_true rfl, Nat.le_of_ble_eq_true rfl⟩) hW (fun H locs hW => ?_)
      refine lv_if_ge (tgt := 54) hx hb dX10_setPoint_39 (by decide) (fun c1 => ?_) (fun c1 => ?_)
      · have hr := br_p c1 hr
        refine lv_aload_n hx hb dX10_setPoint_54 rfl (lv_at hl 1 rfl) ?_
        refine g10_1 hx hb hts hi10 hown hK hW (k := 224) rfl (hts _ (wm 7 rfl)) dX10_setPoint_55 ?_
        refine lv_aload_n hx hb dX10_setPoint_58 rfl (lv_at hl 1 rfl) ?_
        refine g10_0 hx hb hts hi10 hown hK hW (k := 224) rfl (hts _ (wm 3 rfl)) dX10_setPoint_59 ?_
        obtain ⟨M_4, hc62, hr⟩ := ob1_e hr
        refine xc_v (va_runV (As := [.ref (ad 0)]) (rest := []) ⟨hx, hb, hml, hown, hts⟩ (c_X1_push l D cA ad M hc62) (cwV 1 hts gX10_setPoint_X1_push rfl rfl rfl (by decide +kernel) ⟨Nat.le_of_ble_eq_true rfl, Nat.le_of_ble_eq_true rfl⟩) (xpreV hK hW (k := 225) rfl (by decide) rfl) rfl rfl hl.1 rfl (lv_room (Nat.le_of_ble_eq_true rfl)) dX10_setPoint_62 ⟨Nat.le_of_ble_eq_true rfl, Nat.le_of_ble_eq_true rfl⟩) hW (fun ad_5 H locs had2 hW => ?_)
        have hl := lv_sub (l' := [(3, .ref (ad 10)), (1, .int x1), (2, .int x2)]) hl [0, 2, 3] rfl
        rw [← had2.1 10 rfl] at hl
        have had := had2
        refine lv_aload_n hx hb dX10_setPoint_65 rfl (lv_at hl 0 rfl) ?_
        refine lv_iload_n hx hb dX10_setPoint_66 rfl (lv_at hl 1 rfl) ?_
        refine lv_iload_n hx hb dX10_setPoint_67 rfl (lv_at hl 2 rfl) ?_
        obtain ⟨M_6, hc68, hr⟩ := ob1_e hr
        refine xk_v (va_runV (As := [.int x1, .int x2]) (rest := []) ⟨hx, hb, hml, hown, hts⟩ (c_X4_put l D cA ad_5 M_4 x1 x2 hc68) (cwV 2 hts gX10_setPoint_X4_put rfl rfl rfl (by decide +kernel) ⟨Nat.le_of_ble_eq_true rfl, Nat.le_of_ble_eq_true rfl⟩) (xpreV hK hW (k := 10) rfl (by decide) rfl) rfl rfl hl.1 rfl (lv_room (Nat.le_of_ble_eq_true rfl)) dX10_setPoint_68 ⟨Nat.le_of_ble_eq_true rfl, Nat.le_of_ble_eq_true rfl⟩) hW (fun H locs hW => ?_)
        refine lv_aload_n hx hb dX10_setPoint_71 rfl (lv_at hl 0 rfl) ?_
        refine g4_2 hx hb hts hi4 hown hK hW (k := 10) rfl (hts _ (wm 5 rfl)) dX10_setPoint_72 ?_
        obtain ⟨e1, e2⟩ := Prod.mk.inj (Option.some.inj hr)
        rw [← e1, ← e2]
        exact xiret hx hb hr0 hlocks hW had dX10_setPoint_75
      · have hr := br_n c1 hr
        refine lv_aload_n hx hb dX10_setPoint_42 rfl (lv_at hl 0 rfl) ?_
        refine g4_2 hx hb hts hi4 hown hK hW (k := 10) rfl (hts _ (wm 5 rfl)) dX10_setPoint_43 ?_
        refine lv_bipush (v := (6 : Int32)) hx hb dX10_setPoint_46 (by decide) ?_
        refine lv_icmp_lt (tgt := 54) hx hb dX10_setPoint_48 (by decide) (fun c1 => ?_) (fun c1 => ?_)
        · have hr := br_p c1 hr
          refine lv_aload_n hx hb dX10_setPoint_54 rfl (lv_at hl 1 rfl) ?_
          refine g10_1 hx hb hts hi10 hown hK hW (k := 224) rfl (hts _ (wm 7 rfl)) dX10_setPoint_55 ?_
          refine lv_aload_n hx hb dX10_setPoint_58 rfl (lv_at hl 1 rfl) ?_
          refine g10_0 hx hb hts hi10 hown hK hW (k := 224) rfl (hts _ (wm 3 rfl)) dX10_setPoint_59 ?_
          obtain ⟨M_7, hc62, hr⟩ := ob1_e hr
          refine xc_v (va_runV (As := [.ref (ad 0)]) (rest := []) ⟨hx, hb, hml, hown, hts⟩ (c_X1_push l D cA ad M hc62) (cwV 1 hts gX10_setPoint_X1_push rfl rfl rfl (by decide +kernel) ⟨Nat.le_of_ble_eq_true rfl, Nat.le_of_ble_eq_true rfl⟩) (xpreV hK hW (k := 225) rfl (by decide) rfl) rfl rfl hl.1 rfl (lv_room (Nat.le_of_ble_eq_true rfl)) dX10_setPoint_62 ⟨Nat.le_of_ble_eq_true rfl, Nat.le_of_ble_eq_true rfl⟩) hW (fun ad_8 H locs had2 hW => ?_)
          have hl := lv_sub (l' := [(3, .ref (ad 10)), (1, .int x1), (2, .int x2)]) hl [0, 2, 3] rfl
          rw [← had2.1 10 rfl] at hl
          have had := had2
          refine lv_aload_n hx hb dX10_setPoint_65 rfl (lv_at hl 0 rfl) ?_
          refine lv_iload_n hx hb dX10_setPoint_66 rfl (lv_at hl 1 rfl) ?_
          refine lv_iload_n hx hb dX10_setPoint_67 rfl (lv_at hl 2 rfl) ?_
          obtain ⟨M_9, hc68, hr⟩ := ob1_e hr
          refine xk_v (va_runV (As := [.int x1, .int x2]) (rest := []) ⟨hx, hb, hml, hown, hts⟩ (c_X4_put l D cA ad_8 M_7 x1 x2 hc68) (cwV 2 hts gX10_setPoint_X4_put rfl rfl rfl (by decide +kernel) ⟨Nat.le_of_ble_eq_true rfl, Nat.le_of_ble_eq_true rfl⟩) (xpreV hK hW (k := 10) rfl (by decide) rfl) rfl rfl hl.1 rfl (lv_room (Nat.le_of_ble_eq_true rfl)) dX10_setPoint_68 ⟨Nat.le_of_ble_eq_true rfl, Nat.le_of_ble_eq_true rfl⟩) hW (fun H locs hW => ?_)
          refine lv_aload_n hx hb dX10_setPoint_71 rfl (lv_at hl 0 rfl) ?_
          refine g4_2 hx hb hts hi4 hown hK hW (k := 10) rfl (hts _ (wm 5 rfl)) dX10_setPoint_72 ?_
          obtain ⟨e1, e2⟩ := Prod.mk.inj (Option.some.inj hr)
          rw [← e1, ← e2]
          exact xiret hx hb hr0 hlocks hW had dX10_setPoint_75
        · have hr := br_n c1 hr
          refine lv_ldc (v := (-2000000004 : Int32)) hx hb hown (hts _ (wm 6 rfl)) dX10_setPoint_51 ?_
          obtain ⟨e1, e2⟩ := Prod.mk.inj (Option.some.inj hr)
          rw [← e1, ← e2]
          exact xiret hx hb hr0 hlocks hW adR_rf dX10_setPoint_53
    · have hr := br_p c1 hr
      refine lv_ldc (v := (-2000000002 : Int32)) hx hb hown (hts _ (wm 2 rfl)) dX10_setPoint_23 ?_
      obtain ⟨e1, e2⟩ := Prod.mk.inj (Option.some.inj hr)
      rw [← e1, ← e2]
      exact xiret hx hb hr0 hlocks hW adR_rf dX10_setPoint_25

set_option maxHeartbeats 4000000 in
set_option maxRecDepth 100000 in
theorem c_X10_removePoint (l : Launch) (D : va_G) (cA : Nat → ClassId) (ad : Nat → Nat) (M : Mm) (x1 : Int32) {r : Int32} {M' : Mm} (hr : f_X10_removePoint x1 M = some (r, M')) : Met l yX10_removePoint wsX10_removePoint ({ frames := 4, cells := 0, slots := 0, locals := 124 }) (PcX D true cA ad M [.ref (ad 224), .int x1]) (QiX true D true cA ad r M') 0 0 (AX true ad) := by
  refine Met.ofW (cc := cX10_removePoint) (maxL := 3) (ret := (some .int)) (by decide) rfl ?_
  intro p e s m args below meth c s₁ B hml hv
  obtain ⟨hav, hP0, hK⟩ := hv
  have hx := B.exec
  have hb := B.bytes
  have hr0 := B.returns
  have hts := atoms_spec (ws := wsX10_removePoint) B.pre
  have hown : s.vm.findClass RX10 = some m.cls := findClass_of_methodNamed B.named
  have hlocks := B.notSynchronized
  have hW := xstart hP0
  have hi8 : ∀ w ∈ wsX80, w ∈ wsX10_removePoint := fun w h => List.mem_cons_of_mem _ (List.mem_append_left _ (List.mem_append_left _ (List.mem_append_left _ (List.mem_append_left _ (List.mem_append_left _ (List.mem_append_left _ (List.mem_append_right _ h)))))))
  have hi10 : ∀ w ∈ wsX100, w ∈ wsX10_removePoint := fun w h => List.mem_cons_of_mem _ (List.mem_append_left _ (List.mem_append_left _ (List.mem_append_left _ (List.mem_append_left _ (List.mem_append_left _ (List.mem_append_left _ (List.mem_append_left _ (List.mem_append_right _ h))))))))
  have hl := lv_entry ([.ref (ad 224), .int x1]) (n := 3) (Nat.le_of_ble_eq_true rfl)
  have hef := lg_entry_eq m ([.ref (ad 224), .int x1]) 3
  rw [← hav] at hef
  rw [hef]
  clear hef
  generalize (lg_sl ([.ref (ad 224), .int x1]) ++ List.replicate (3 - (lg_sl ([.ref (ad 224), .int x1])).length) Slot.unset).toArray = ls at hl ⊢
  have hl : lv_has ls 3 [(0, .ref (ad 224)), (1, .int x1)] := hl
  clear hP0
  unfold f_X10_removePoint at hr
  refine lv_iload_n hx hb dX10_removePoint_0 rfl (lv_at hl 1 rfl) ?_
  refine lv_iconst (v := (0 : Int32)) hx hb dX10_removePoint_1 (by decide) ?_
  refine lv_ldc (v := (100000 : Int32)) hx hb hown (hts _ (wm 1 rfl)) dX10_removePoint_2 ?_
  obtain ⟨r_1, hc4, hr⟩ := ob1_e hr
  refine xk_i (va_runS (As := [.int x1, .int (0 : Int32), .int (100000 : Int32)]) (rest := []) ⟨hx, hb, hml, hown, hts⟩ (c_X10_isWithin l D cA ad M x1 (0 : Int32) (100000 : Int32) hc4) (va_cwS 3 hts gX10_removePoint_X10_isWithin rfl rfl rfl (by decide +kernel) ⟨Nat.le_of_ble_eq_true rfl, Nat.le_of_ble_eq_true rfl⟩) (xpreS hK hW) rfl rfl hl.1 rfl (lv_room (Nat.le_of_ble_eq_true rfl)) dX10_removePoint_4 ⟨Nat.le_of_ble_eq_true rfl, Nat.le_of_ble_eq_true rfl⟩) hW (fun H locs hW => ?_)
  refine lv_if_ne (tgt := 13) hx hb dX10_removePoint_7 (by decide) (fun c1 => ?_) (fun c1 => ?_)
  · have hr := br_n c1 hr
    refine lv_aload_n hx hb dX10_removePoint_13 rfl (lv_at hl 0 rfl) ?_
    refine g10_0 hx hb hts hi10 hown hK hW (k := 224) rfl (hts _ (wm 3 rfl)) dX10_removePoint_14 ?_
    refine g8_2 hx hb hts hi8 hown hK hW (k := 0) rfl (hts _ (wm 4 rfl)) dX10_removePoint_17 ?_
    refine lv_iload_n hx hb dX10_removePoint_20 rfl (lv_at hl 1 rfl) ?_
    obtain ⟨r_2, hc21, hr⟩ := ob1_e hr
    refine xk_i (va_runV (As := [.int x1]) (rest := []) ⟨hx, hb, hml, hown, hts⟩ (c_X4_find l D cA ad M x1 hc21) (cwV 1 hts gX10_removePoint_X4_find rfl rfl rfl (by decide +kernel) ⟨Nat.le_of_ble_eq_true rfl, Nat.le_of_ble_eq_true rfl⟩) (xpreV hK hW (k := 10) rfl (by decide) rfl) rfl rfl hl.1 rfl (lv_room (Nat.le_of_ble_eq_true rfl)) dX10_removePoint_21 ⟨Nat.le_of_ble_eq_true rfl, Nat.le_of_ble_eq_true rfl⟩) hW (fun H locs hW => ?_)
    refine lv_istore_n (lv' := [(2, .int r_2), (0, .ref (ad 224)), (1, .int x1)]) hx hb dX10_removePoint_24 rfl hl (by decide) rfl (fun ls hl => ?_)
    refine lv_iload_n hx hb dX10_removePoint_25 rfl (lv_at hl 0 rfl) ?_
    refine lv_if_ge (tgt := 32) hx hb dX10_removePoint_26 (by decide) (fun c1 => ?_) (fun c1 => ?_)
    · have hr := br_p c1 hr
      refine lv_aload_n hx hb dX10_removePoint_32 rfl (lv_at hl 1 rfl) ?_
      refine g10_1 hx hb hts hi10 hown hK hW (k := 224) rfl (hts _ (wm 6 rfl)) dX10_removePoint_33 ?_
      refine lv_aload_n hx hb dX10_removePoint_36 rfl (lv_at hl 1 rfl) ?_
      refine g10_0 hx hb hts hi10 hown hK hW (k := 224) rfl (hts _ (wm 3 rfl)) dX10_removePoint_37 ?_
      obtain ⟨M_3, hc40, hr⟩ := ob1_e hr
      refine xc_v (va_runV (As := [.ref (ad 0)]) (rest := []) ⟨hx, hb, hml, hown, hts⟩ (c_X1_push l D cA ad M hc40) (cwV 1 hts gX10_removePoint_X1_push rfl rfl rfl (by decide +kernel) ⟨Nat.le_of_ble_eq_true rfl, Nat.le_of_ble_eq_true rfl⟩) (xpreV hK hW (k := 225) rfl (by decide) rfl) rfl rfl hl.1 rfl (lv_room (Nat.le_of_ble_eq_true rfl)) dX10_removePoint_40 ⟨Nat.le_of_ble_eq_true rfl, Nat.le_of_ble_eq_true rfl⟩) hW (fun ad_4 H locs had2 hW => ?_)
      rw [← had2.1 224 rfl] at hl
      have had := had2
      refine lv_aload_n hx hb dX10_removePoint_43 rfl (lv_at hl 1 rfl) ?_
      refine g10_0 hx hb hts hi10 hown hK hW (k := 224) rfl (hts _ (wm 3 rfl)) dX10_removePoint_44 ?_
      refine g8_2 hx hb hts hi8 hown hK hW (k := 0) rfl (hts _ (wm 4 rfl)) dX10_removePoint_47 ?_
      refine lv_iload_n hx hb dX10_removePoint_50 rfl (lv_at hl 0 rfl) ?_
      obtain ⟨r_6, M_5, hc51, hr⟩ := ob2_e hr
      refine xk_i (va_runV (As := [.int r_2]) (rest := []) ⟨hx, hb, hml, hown, hts⟩ (c_X4_take l D cA ad_4 M_3 r_2 hc51) (cwV 1 hts gX10_removePoint_X4_take rfl rfl rfl (by decide +kernel) ⟨Nat.le_of_ble_eq_true rfl, Nat.le_of_ble_eq_true rfl⟩) (xpreV hK hW (k := 10) rfl (by decide) rfl) rfl rfl hl.1 rfl (lv_room (Nat.le_of_ble_eq_true rfl)) dX10_removePoint_51 ⟨Nat.le_of_ble_eq_true rfl, Nat.le_of_ble_eq_true rfl⟩) hW (fun H locs hW => ?_)
      obtain ⟨e1, e2⟩ := Prod.mk.inj (Option.some.inj hr)
      rw [← e1, ← e2]
      exact xiret hx hb hr0 hlocks hW had dX10_removePoint_54
    · have hr := br_n c1 hr
      refine lv_ldc (v := (-2000000003 : Int32)) hx hb hown (hts _ (wm 5 rfl)) dX10_removePoint_29 ?_
      obtain ⟨e1, e2⟩ := Prod.mk.inj (Option.some.inj hr)
      rw [← e1, ← e2]
      exact xiret hx hb hr0 hlocks hW adR_rf dX10_removePoint_31
  · have hr := br_p c1 hr
    refine lv_ldc (v := (-2000000002 : Int32)) hx hb hown (hts _ (wm 2 rfl)) dX10_removePoint_10 ?_
    obtain ⟨e1, e2⟩ := Prod.mk.inj (Option.some.inj hr)
    rw [← e1, ← e2]
    exact xiret hx hb hr0 hlocks hW adR_rf dX10_removePoint_12

set_option maxHeartbeats 4000000 in
set_option maxRecDepth 100000 in
theorem c_X10_set (l : Launch) (D : va_G) (cA : Nat → ClassId) (ad : Nat → Nat) (M : Mm) (x1 : Int32) (x2 : Int32) (t_SETTING_LOW t_SETTING_HIGH : Nat) {r : Int32} {M' : Mm} (hr : f_X10_set x1 x2 M = some (r, M')) : Met l yX10_set wsX10_set ({ frames := 4, cells := 0, slots := 0, locals := 124 }) (PcS D cA ad M t_SETTING_LOW t_SETTING_HIGH [.ref (ad 224), .int x1, .int x2]) (QiX true D true cA ad r M') 0 0 (AX true ad) := by
  refine Met.ofW (cc := cX10_set) (maxL := 4) (ret := (some .int)) (by decide) rfl ?_
  intro p e s m args below meth c s₁ B hml hv
  obtain ⟨hav, hP0, hK, hZ_SETTING_LOW, hT_SETTING_LOW, hZ_SETTING_HIGH, hT_SETTING_HIGH⟩ := hv
  have hx := B.exec
  have hb := B.bytes
  have hr0 := B.returns
  have hts := atoms_spec (ws := wsX10_set) B.pre
  have hown : s.vm.findClass RX10 = some m.cls := findClass_of_methodNamed B.named
  have hlocks := B.notSynchronized
  have hW := xstart hP0
  have hi8 : ∀ w ∈ wsX80, w ∈ wsX10_set := fun w h => List.mem_cons_of_mem _ (List.mem_append_left _ (List.mem_append_left _ (List.mem_append_left _ (List.mem_append_left _ (List.mem_append_left _ (List.mem_append_left _ (List.mem_append_right _ h)))))))
  have hi10 : ∀ w ∈ wsX100, w ∈ wsX10_set := fun w h => List.mem_cons_of_mem _ (List.mem_append_left _ (List.mem_append_left _ (List.mem_append_left _ (List.mem_append_left _ (List.mem_append_left _ (List.mem_append_left _ (List.mem_append_left _ (List.mem_append_right _ h))))))))
  have hl := lv_entry ([.ref (ad 224), .int x1, .int x2]) (n := 4) (Nat.le_of_ble_eq_true rfl)
  have hef := lg_entry_eq m ([.ref (ad 224), .int x1, .int x2]) 4
  rw [← hav] at hef
  rw [hef]
  clear hef
  generalize (lg_sl ([.ref (ad 224), .int x1, .int x2]) ++ List.replicate (4 - (lg_sl ([.ref (ad 224), .int x1, .int x2])).length) Slot.unset).toArray = ls at hl ⊢
  have hl : lv_has ls 4 [(0, .ref (ad 224)), (1, .int x1), (2, .int x2)] := hl
  clear hP0
  unfold f_X10_set at hr
  refine lv_iload_n hx hb dX10_set_0 rfl (lv_at hl 1 rfl) ?_
  refine lv_if_lt (tgt := 9) hx hb dX10_set_1 (by decide) (fun c1 => ?_) (fun c1 => ?_)
  · have hr := br_p c1 hr
    refine lv_ldc (v := (-2000000001 : Int32)) hx hb hown (hts _ (wm 1 rfl)) dX10_set_9 ?_
    obtain ⟨e1, e2⟩ := Prod.mk.inj (Option.some.inj hr)
    rw [← e1, ← e2]
    exact xiret hx hb hr0 hlocks hW adR_rf dX10_set_11
  · have hr := br_n c1 hr
    refine lv_iload_n hx hb dX10_set_4 rfl (lv_at hl 1 rfl) ?_
    refine lv_iconst (v := (5 : Int32)) hx hb dX10_set_5 (by decide) ?_
    refine lv_icmp_lt (tgt := 12) hx hb dX10_set_6 (by decide) (fun c1 => ?_) (fun c1 => ?_)
    · have hr := br_p c1 hr
      refine lv_iload_n hx hb dX10_set_12 rfl (lv_at hl 2 rfl) ?_
      refine va_gets (C := "TransitMeter") hx hb hZ_SETTING_LOW hW.2.2 hown (hts _ (wm 2 rfl)) (fun _ h9 => h9) dX10_set_13 ?_
      refine lv_iload_n hx hb dX10_set_16 rfl (lv_at hl 1 rfl) ?_
      obtain ⟨hi17x, hr⟩ := chk_e hr
      refine va_ti hx hb hT_SETTING_LOW hW.2.2 (inb_in hi17x) rfl dX10_set_17 ?_
      refine va_gets (C := "TransitMeter") hx hb hZ_SETTING_HIGH hW.2.2 hown (hts _ (wm 3 rfl)) (fun _ h9 => h9) dX10_set_18 ?_
      refine lv_iload_n hx hb dX10_set_21 rfl (lv_at hl 1 rfl) ?_
      obtain ⟨hi22x, hr⟩ := chk_e hr
      refine va_ti hx hb hT_SETTING_HIGH hW.2.2 (inb_in hi22x) rfl dX10_set_22 ?_
      obtain ⟨r_1, hc23, hr⟩ := ob1_e hr
      refine xk_i (va_runS (As := [.int x2, .int (sSETTING_LOW (ix x1)), .int (sSETTING_HIGH (ix x1))]) (rest := []) ⟨hx, hb, hml, hown, hts⟩ (c_X10_isWithin l D cA ad M x2 (sSETTING_LOW (ix x1)) (sSETTING_HIGH (ix x1)) hc23) (va_cwS 3 hts gX10_set_X10_isWithin rfl rfl rfl (by decide +kernel) ⟨Nat.le_of_ble_eq_true rfl, Nat.le_of_ble_eq_true rfl⟩) (xpreS hK hW) rfl rfl hl.1 rfl (lv_room (Nat.le_of_ble_eq_true rfl)) dX10_set_23 ⟨Nat.le_of_ble_eq_true rfl, Nat.le_of_ble_eq_true rfl⟩) hW (fun H locs hW => ?_)
      refine lv_if_ne (tgt := 32) hx hb dX10_set_26 (by decide) (fun c1 => ?_) (fun c1 => ?_)
      · have hr := br_n c1 hr
        refine lv_aload_n hx hb dX10_set_32 rfl (lv_at hl 0 rfl) ?_
        refine g10_1 hx hb hts hi10 hown hK hW (k := 224) rfl (hts _ (wm 5 rfl)) dX10_set_33 ?_
        refine lv_aload_n hx hb dX10_set_36 rfl (lv_at hl 0 rfl) ?_
        refine g10_0 hx hb hts hi10 hown hK hW (k := 224) rfl (hts _ (wm 6 rfl)) dX10_set_37 ?_
        obtain ⟨M_2, hc40, hr⟩ := ob1_e hr
        refine xc_v (va_runV (As := [.ref (ad 0)]) (rest := []) ⟨hx, hb, hml, hown, hts⟩ (c_X1_push l D cA ad M hc40) (cwV 1 hts gX10_set_X1_push rfl rfl rfl (by decide +kernel) ⟨Nat.le_of_ble_eq_true rfl, Nat.le_of_ble_eq_true rfl⟩) (xpreV hK hW (k := 225) rfl (by decide) rfl) rfl rfl hl.1 rfl (lv_room (Nat.le_of_ble_eq_true rfl)) dX10_set_40 ⟨Nat.le_of_ble_eq_true rfl, Nat.le_of_ble_eq_true rfl⟩) hW (fun ad_3 H locs had2 hW => ?_)
        rw [← had2.1 224 rfl] at hl
        have had := had2
        refine lv_aload_n hx hb dX10_set_43 rfl (lv_at hl 0 rfl) ?_
        refine g10_0 hx hb hts hi10 hown hK hW (k := 224) rfl (hts _ (wm 6 rfl)) dX10_set_44 ?_
        refine g8_3 hx hb hts hi8 hown hK hW (k := 0) rfl (hts _ (wm 7 rfl)) dX10_set_47 ?_
        refine lv_iload_n hx hb dX10_set_50 rfl (lv_at hl 1 rfl) ?_
        obtain ⟨hn51, hr⟩ := chk_e hr
        refine xiald hx hb hK hW (k := 13) (t := 21) rfl (by decide) (by decide) rfl (n := 5) hn51 (jx := (ix x1)) rfl dX10_set_51 ?_
        obtain ⟨x3_4, ex3_4, hr⟩ := lt1_e hr
        rw [← ex3_4]
        refine lv_istore_n (lv' := [(3, .int x3_4), (0, .ref (ad_3 224)), (1, .int x1), (2, .int x2)]) hx hb dX10_set_52 rfl hl (by decide) rfl (fun ls hl => ?_)
        refine lv_aload_n hx hb dX10_set_53 rfl (lv_at hl 1 rfl) ?_
        refine g10_0 hx hb hts hi10 hown hK hW (k := 224) rfl (hts _ (wm 6 rfl)) dX10_set_54 ?_
        refine g8_3 hx hb hts hi8 hown hK hW (k := 0) rfl (hts _ (wm 7 rfl)) dX10_set_57 ?_
        refine lv_iload_n hx hb dX10_set_60 rfl (lv_at hl 2 rfl) ?_
        refine lv_iload_n hx hb dX10_set_61 rfl (lv_at hl 3 rfl) ?_
        obtain ⟨hn62, hr⟩ := chk_e hr
        obtain ⟨M_5, eM_5, hr⟩ := lt1_e hr
        refine xiast hx hb hK hW (k := 13) (t := 21) rfl (by decide) (by decide) rfl (n := 5) hn62 (jx := (ix x1)) rfl dX10_set_62 (fun H locs hW => ?_)
        rw [← eM_5] at hW
        refine lv_iload_n hx hb dX10_set_63 rfl (lv_at hl 0 rfl) ?_
        obtain ⟨e1, e2⟩ := Prod.mk.inj (Option.some.inj hr)
        rw [← e1, ← e2]
        exact xiret hx hb hr0 hlocks hW had dX10_set_64
      · have hr := br_p c1 hr
        refine lv_ldc (v := (-2000000002 : Int32)) hx hb hown (hts _ (wm 4 rfl)) dX10_set_29 ?_
        obtain ⟨e1, e2⟩ := Prod.mk.inj (Option.some.inj hr)
        rw [← e1, ← e2]
        exact xiret hx hb hr0 hlocks hW adR_rf dX10_set_31
    · have hr := br_n c1 hr
      refine lv_ldc (v := (-2000000001 : Int32)) hx hb hown (hts _ (wm 1 rfl)) dX10_set_9 ?_
      obtain ⟨e1, e2⟩ := Prod.mk.inj (Option.some.inj hr)
      rw [← e1, ← e2]
      exact xiret hx hb hr0 hlocks hW adR_rf dX10_set_11

set_option maxHeartbeats 4000000 in
set_option maxRecDepth 100000 in
theorem c_X10_shotFault (l : Launch) (D : va_G) (cA : Nat → ClassId) (ad : Nat → Nat) (M : Mm) (x1 : Int32) (x2 : Int32) (x3 : Int32) (x4 : Int32) {r : Int32} (hr : f_X10_shotFault x1 x2 x3 x4 M = some r) : Met l yX10_shotFault wsX10_shotFault ({ frames := 2, cells := 0, slots := 0, locals := 43 }) (PcX D true cA ad M [.ref (ad 224), .int x1, .int x2, .int x3, .int x4]) (QiX false D true cA ad r M) 0 0 (AX true ad) := by
  refine Met.ofW (cc := cX10_shotFault) (maxL := 7) (ret := (some .int)) (by decide) rfl ?_
  intro p e s m args below meth c s₁ B hml hv
  obtain ⟨hav, hP0, hK⟩ := hv
  have hx := B.exec
  have hb := B.bytes
  have hr0 := B.returns
  have hts := atoms_spec (ws := wsX10_shotFault) B.pre
  have hown : s.vm.findClass RX10 = some m.cls := findClass_of_methodNamed B.named
  have hlocks := B.notSynchronized
  have hW := xstart hP0
  have hi10 : ∀ w ∈ wsX100, w ∈ wsX10_shotFault := fun w h => List.mem_cons_of_mem _ (List.mem_append_left _ (List.mem_append_left _ (List.mem_append_right _ h)))
  have hl := lv_entry ([.ref (ad 224), .int x1, .int x2, .int x3, .int x4]) (n := 7) (Nat.le_of_ble_eq_true rfl)
  have hef := lg_entry_eq m ([.ref (ad 224), .int x1, .int x2, .int x3, .int x4]) 7
  rw [← hav] at hef
  rw [hef]
  clear hef
  generalize (lg_sl ([.ref (ad 224), .int x1, .int x2, .int x3, .int x4]) ++ List.replicate (7 - (lg_sl ([.ref (ad 224), .int x1, .int x2, .int x3, .int x4])).length) Slot.unset).toArray = ls at hl ⊢
  have hl : lv_has ls 7 [(0, .ref (ad 224)), (1, .int x1), (2, .int x2), (3, .int x3), (4, .int x4)] := hl
  clear hP0
  unfold f_X10_shotFault at hr
  refine lv_aload_n hx hb dX10_shotFault_0 rfl (lv_at hl 0 rfl) ?_
  refine g10_0 hx hb hts hi10 hown hK hW (k := 224) rfl (hts _ (wm 1 rfl)) dX10_shotFault_1 ?_
  refine lv_iload_n hx hb dX10_shotFault_4 rfl (lv_at hl 1 rfl) ?_
  obtain ⟨r_1, hc5, hr⟩ := ob1_e hr
  refine xk_q (va_runV (As := [.int x1]) (rest := []) ⟨hx, hb, hml, hown, hts⟩ (c_X8_pathAt l D cA ad M x1 hc5) (cwV 1 hts gX10_shotFault_X8_pathAt rfl rfl rfl (by decide +kernel) ⟨Nat.le_of_ble_eq_true rfl, Nat.le_of_ble_eq_true rfl⟩) (xpreV hK hW (k := 0) rfl (by decide) rfl) rfl rfl hl.1 rfl (lv_room (Nat.le_of_ble_eq_true rfl)) dX10_shotFault_5 ⟨Nat.le_of_ble_eq_true rfl, Nat.le_of_ble_eq_true rfl⟩) hW (fun H locs hW => ?_)
  cases r_1 with
  | none =>
    have hr : _ = _ := hr
    simp only [onl] at hr
    refine lv_astoreN (lv' := [(5, .null), (0, .ref (ad 224)), (1, .int x1), (2, .int x2), (3, .int x3), (4, .int x4)]) hx hb dX10_shotFault_8 hl (by decide) rfl (fun ls hl => ?_)
    refine lv_aloadN hx hb dX10_shotFault_10 (lv_at hl 0 rfl) ?_
    refine lv_ifnonnullN hx hb dX10_shotFault_12 ?_
    refine lv_ldc (v := (-2000000001 : Int32)) hx hb hown (hts _ (wm 2 rfl)) dX10_shotFault_15 ?_
    rw [← Option.some.inj hr]
    exact xiret hx hb hr0 hlocks hW adR_rf dX10_shotFault_17
  | some k_2 =>
    simp only [onl] at hr
    obtain ⟨hk5, hr⟩ := chk_e hr
    have hk5 := of_decide_eq_true hk5
    refine lv_astore (lv' := [(5, .ref (ad k_2)), (0, .ref (ad 224)), (1, .int x1), (2, .int x2), (3, .int x3), (4, .int x4)]) hx hb dX10_shotFault_8 hl (by decide) rfl (fun ls hl => ?_)
    refine lv_aload hx hb dX10_shotFault_10 (lv_at hl 0 rfl) ?_
    refine lv_ifnonnull (tgt := 18) hx hb dX10_shotFault_12 (by decide) ?_
    refine lv_aload hx hb dX10_shotFault_18 (lv_at hl 0 rfl) ?_
    refine lv_iload_n hx hb dX10_shotFault_20 rfl (lv_at hl 3 rfl) ?_
    obtain ⟨r_3, hc21, hr⟩ := ob1_e hr
    refine xk_i (va_runV (As := [.int x2]) (rest := []) ⟨hx, hb, hml, hown, hts⟩ (c_X3_canTake l D cA ad M k_2 x2 hk5 hc21) (cwV 1 hts gX10_shotFault_X3_canTake rfl rfl rfl (by decide +kernel) ⟨Nat.le_of_ble_eq_true rfl, Nat.le_of_ble_eq_true rfl⟩) (xpreV hK hW (k := k_2) hk5 (by decide) rfl) rfl rfl hl.1 rfl (lv_room (Nat.le_of_ble_eq_true rfl)) dX10_shotFault_21 ⟨Nat.le_of_ble_eq_true rfl, Nat.le_of_ble_eq_true rfl⟩) hW (fun H locs hW => ?_)
    obtain ⟨y_4, hr, hr3⟩ := ob1_e hr
    have hj52_4 : ∀ (H : Heap) (locs : List Loc) (ls : Array Slot), Xw D true cA ad M (AX true ad) s.heap H locs → lv_has ls 7 [] → W p l e (headSpec wsX10_shotFault { frames := 2, cells := 0, slots := 0, locals := 43 }).room s m args below meth c H locs 0 0 (MQ below (QiX false D true cA ad r M) args s 0 0 (AX true ad)) (F0 m 52 ls [.int y_4]) := by
      intro H locs ls hW hl
      have hr := hr3
      refine lv_istore (lv' := [(6, .int y_4)]) hx hb dX10_shotFault_52 hl (by decide) rfl (fun ls hl => ?_)
      refine lv_iload hx hb dX10_shotFault_54 (lv_at hl 0 rfl) ?_
      refine lv_if_eq (tgt := 63) hx hb dX10_shotFault_56 (by decide) (fun c1 => ?_) (fun c1 => ?_)
      · have hr := br_p c1 hr
        refine lv_ldc (v := (-2000000002 : Int32)) hx hb hown (hts _ (wm 3 rfl)) dX10_shotFault_63 ?_
        rw [← Option.some.inj hr]
        exact xiret hx hb hr0 hlocks hW adR_rf dX10_shotFault_65
      · have hr := br_n c1 hr
        refine lv_iconst (v := (0 : Int32)) hx hb dX10_shotFault_59 (by decide) ?_
        refine lv_goto (tgt := 65) hx hb dX10_shotFault_60 (by decide) ?_
        rw [← Option.some.inj hr]
        exact xiret hx hb hr0 hlocks hW adR_rf dX10_shotFault_65
    clear hr3
    refine lv_if_eq (tgt := 51) hx hb dX10_shotFault_24 (by decide) (fun c1 => ?_) (fun c1 => ?_)
    · have hr := br_p c1 hr
      refine lv_iconst (v := (0 : Int32)) hx hb dX10_shotFault_51 (by decide) ?_
      have e1 := Option.some.inj hr
      subst e1
      exact hj52_4 _ _ _ hW (lv_sub hl [] rfl)
    · have hr := br_n c1 hr
      refine lv_aload hx hb dX10_shotFault_27 (lv_at hl 0 rfl) ?_
      refine lv_iload_n hx hb dX10_shotFault_29 rfl (lv_at hl 4 rfl) ?_
      obtain ⟨r_5, hc30, hr⟩ := ob1_e hr
      refine xk_i (va_runV (As := [.int x3]) (rest := []) ⟨hx, hb, hml, hown, hts⟩ (c_X3_canTake l D cA ad M k_2 x3 hk5 hc30) (cwV 1 hts gX10_shotFault_X3_canTake rfl rfl rfl (by decide +kernel) ⟨Nat.le_of_ble_eq_true rfl, Nat.le_of_ble_eq_true rfl⟩) (xpreV hK hW (k := k_2) hk5 (by decide) rfl) rfl rfl hl.1 rfl (lv_room (Nat.le_of_ble_eq_true rfl)) dX10_shotFault_30 ⟨Nat.le_of_ble_eq_true rfl, Nat.le_of_ble_eq_true rfl⟩) hW (fun H locs hW => ?_)
      refine lv_if_eq (tgt := 51) hx hb dX10_shotFault_33 (by decide) (fun c1 => ?_) (fun c1 => ?_)
      · have hr := br_p c1 hr
        refine lv_iconst (v := (0 : Int32)) hx hb dX10_shotFault_51 (by decide) ?_
        have e1 := Option.some.inj hr
        subst e1
        exact hj52_4 _ _ _ hW (lv_sub hl [] rfl)
      · have hr := br_n c1 hr
        refine lv_iload hx hb dX10_shotFault_36 (lv_at hl 5 rfl) ?_
        refine lv_iconst (v := (0 : Int32)) hx hb dX10_shotFault_38 (by decide) ?_
        refine lv_bipush (v := (100 : Int32)) hx hb dX10_shotFault_39 (by decide) ?_
        obtain ⟨r_6, hc41, hr⟩ := ob1_e hr
        refine xk_i (va_runS (As := [.int x4, .int (0 : Int32), .int (100 : Int32)]) (rest := []) ⟨hx, hb, hml, hown, hts⟩ (c_X10_isWithin l D cA ad M x4 (0 : Int32) (100 : Int32) hc41) (va_cwS 3 hts gX10_shotFault_X10_isWithin rfl rfl rfl (by decide +kernel) ⟨Nat.le_of_ble_eq_true rfl, Nat.le_of_ble_eq_true rfl⟩) (xpreS hK hW) rfl rfl hl.1 rfl (lv_room (Nat.le_of_ble_eq_true rfl)) dX10_shotFault_41 ⟨Nat.le_of_ble_eq_true rfl, Nat.le_of_ble_eq_true rfl⟩) hW (fun H locs hW => ?_)
        refine lv_if_eq (tgt := 51) hx hb dX10_shotFault_44 (by decide) (fun c1 => ?_) (fun c1 => ?_)
        · have hr := br_p c1 hr
          refine lv_iconst (v := (0 : Int32)) hx hb dX10_shotFault_51 (by decide) ?_
          have e1 := Option.some.inj hr
          subst e1
          exact hj52_4 _ _ _ hW (lv_sub hl [] rfl)
        · have hr := br_n c1 hr
          refine lv_iconst (v := (1 : Int32)) hx hb dX10_shotFault_47 (by decide) ?_
          refine lv_goto (tgt := 52) hx hb dX10_shotFault_48 (by decide) ?_
          have e1 := Option.some.inj hr
          subst e1
          exact hj52_4 _ _ _ hW (lv_sub hl [] rfl)

set_option maxHeartbeats 4000000 in
set_option maxRecDepth 100000 in
theorem c_X10_takeShot (l : Launch) (D : va_G) (cA : Nat → ClassId) (ad : Nat → Nat) (M : Mm) (x1 : Int32) (x2 : Int32) (x3 : Int32) (x4 : Int32) {r : Int32} {M' : Mm} (hr : f_X10_takeShot x1 x2 x3 x4 M = some (r, M')) : Met l yX10_takeShot wsX10_takeShot ({ frames := 3, cells := 0, slots := 0, locals := 69 }) (PcX D true cA ad M [.ref (ad 224), .int x1, .int x2, .int x3, .int x4]) (QiX false D true cA ad r M') 0 0 (AX true ad) := by
  refine Met.ofW (cc := cX10_takeShot) (maxL := 6) (ret := (some .int)) (by decide) rfl ?_
  intro p e s m args below meth c s₁ B hml hv
  obtain ⟨hav, hP0, hK⟩ := hv
  have hx := B.exec
  have hb := B.bytes
  have hr0 := B.returns
  have hts := atoms_spec (ws := wsX10_takeShot) B.pre
  have hown : s.vm.findClass RX10 = some m.cls := findClass_of_methodNamed B.named
  have hlocks := B.notSynchronized
  have hW := xstart hP0
  have hi10 : ∀ w ∈ wsX100, w ∈ wsX10_takeShot := fun w h => List.mem_cons_of_mem _ (List.mem_append_left _ (List.mem_append_left _ (List.mem_append_left _ (List.mem_append_right _ h))))
  have hl := lv_entry ([.ref (ad 224), .int x1, .int x2, .int x3, .int x4]) (n := 6) (Nat.le_of_ble_eq_true rfl)
  have hef := lg_entry_eq m ([.ref (ad 224), .int x1, .int x2, .int x3, .int x4]) 6
  rw [← hav] at hef
  rw [hef]
  clear hef
  generalize (lg_sl ([.ref (ad 224), .int x1, .int x2, .int x3, .int x4]) ++ List.replicate (6 - (lg_sl ([.ref (ad 224), .int x1, .int x2, .int x3, .int x4])).length) Slot.unset).toArray = ls at hl ⊢
  have hl : lv_has ls 6 [(0, .ref (ad 224)), (1, .int x1), (2, .int x2), (3, .int x3), (4, .int x4)] := hl
  clear hP0
  unfold f_X10_takeShot at hr
  refine lv_aload_n hx hb dX10_takeShot_0 rfl (lv_at hl 0 rfl) ?_
  refine lv_iload_n hx hb dX10_takeShot_1 rfl (lv_at hl 1 rfl) ?_
  refine lv_iload_n hx hb dX10_takeShot_2 rfl (lv_at hl 2 rfl) ?_
  refine lv_iload_n hx hb dX10_takeShot_3 rfl (lv_at hl 3 rfl) ?_
  refine lv_iload hx hb dX10_takeShot_4 (lv_at hl 4 rfl) ?_
  obtain ⟨r_1, hc6, hr⟩ := ob1_e hr
  refine xk_i (va_runV (As := [.int x1, .int x2, .int x3, .int x4]) (rest := []) ⟨hx, hb, hml, hown, hts⟩ (c_X10_shotFault l D cA ad M x1 x2 x3 x4 hc6) (cwV 4 hts gX10_takeShot_X10_shotFault rfl rfl rfl (by decide +kernel) ⟨Nat.le_of_ble_eq_true rfl, Nat.le_of_ble_eq_true rfl⟩) (xpreV hK hW (k := 224) rfl (by decide) rfl) rfl rfl hl.1 rfl (lv_room (Nat.le_of_ble_eq_true rfl)) dX10_takeShot_6 ⟨Nat.le_of_ble_eq_true rfl, Nat.le_of_ble_eq_true rfl⟩) hW (fun H locs hW => ?_)
  refine lv_istore (lv' := [(5, .int r_1), (0, .ref (ad 224)), (1, .int x1), (2, .int x2), (3, .int x3), (4, .int x4)]) hx hb dX10_takeShot_9 hl (by decide) rfl (fun ls hl => ?_)
  refine lv_iload hx hb dX10_takeShot_11 (lv_at hl 0 rfl) ?_
  refine lv_if_eq (tgt := 19) hx hb dX10_takeShot_13 (by decide) (fun c1 => ?_) (fun c1 => ?_)
  · have hr := br_p c1 hr
    refine lv_aload_n hx hb dX10_takeShot_19 rfl (lv_at hl 1 rfl) ?_
    refine g10_0 hx hb hts hi10 hown hK hW (k := 224) rfl (hts _ (wm 1 rfl)) dX10_takeShot_20 ?_
    refine lv_iload_n hx hb dX10_takeShot_23 rfl (lv_at hl 2 rfl) ?_
    refine lv_iload_n hx hb dX10_takeShot_24 rfl (lv_at hl 3 rfl) ?_
    refine lv_iload_n hx hb dX10_takeShot_25 rfl (lv_at hl 4 rfl) ?_
    refine lv_iload hx hb dX10_takeShot_26 (lv_at hl 5 rfl) ?_
    obtain ⟨M_2, hc28, hr⟩ := ob1_e hr
    refine xk_v (va_runV (As := [.int x1, .int x2, .int x3, .int x4]) (rest := []) ⟨hx, hb, hml, hown, hts⟩ (c_X8_tellShot l D cA ad M x1 x2 x3 x4 hc28) (cwV 4 hts gX10_takeShot_X8_tellShot rfl rfl rfl (by decide +kernel) ⟨Nat.le_of_ble_eq_true rfl, Nat.le_of_ble_eq_true rfl⟩) (xpreV hK hW (k := 0) rfl (by decide) rfl) rfl rfl hl.1 rfl (lv_room (Nat.le_of_ble_eq_true rfl)) dX10_takeShot_28 ⟨Nat.le_of_ble_eq_true rfl, Nat.le_of_ble_eq_true rfl⟩) hW (fun H locs hW => ?_)
    refine lv_aload_n hx hb dX10_takeShot_31 rfl (lv_at hl 1 rfl) ?_
    refine g10_0 hx hb hts hi10 hown hK hW (k := 224) rfl (hts _ (wm 1 rfl)) dX10_takeShot_32 ?_
    obtain ⟨r_3, hc35, hr⟩ := ob1_e hr
    refine xk_i (va_runV (As := []) (rest := []) ⟨hx, hb, hml, hown, hts⟩ (c_X8_toldShots l D cA ad M_2 hc35) (cwV 0 hts gX10_takeShot_X8_toldShots rfl rfl rfl (by decide +kernel) ⟨Nat.le_of_ble_eq_true rfl, Nat.le_of_ble_eq_true rfl⟩) (xpreV hK hW (k := 0) rfl (by decide) rfl) rfl rfl hl.1 rfl (lv_room (Nat.le_of_ble_eq_true rfl)) dX10_takeShot_35 ⟨Nat.le_of_ble_eq_true rfl, Nat.le_of_ble_eq_true rfl⟩) hW (fun H locs hW => ?_)
    obtain ⟨e1, e2⟩ := Prod.mk.inj (Option.some.inj hr)
    rw [← e1, ← e2]
    exact xiret hx hb hr0 hlocks hW adR_rf dX10_takeShot_38
  · have hr := br_n c1 hr
    refine lv_iload hx hb dX10_takeShot_16 (lv_at hl 0 rfl) ?_
    obtain ⟨e1, e2⟩ := Prod.mk.inj (Option.some.inj hr)
    rw [← e1, ← e2]
    exact xiret hx hb hr0 hlocks hW adR_rf dX10_takeShot_18

set_option maxHeartbeats 4000000 in
set_option maxRecDepth 100000 in
theorem c_X10_shot (l : Launch) (D : va_G) (cA : Nat → ClassId) (ad : Nat → Nat) (M : Mm) (x1 : Int32) (x2 : Int32) (x3 : Int32) (x4 : Int32) {r : Int32} {M' : Mm} (hr : f_X10_shot x1 x2 x3 x4 M = some (r, M')) : Met l yX10_shot wsX10_shot ({ frames := 4, cells := 0, slots := 0, locals := 124 }) (PcX D true cA ad M [.ref (ad 224), .int x1, .int x2, .int x3, .int x4]) (QiX true D true cA ad r M') 0 0 (AX true ad) := by
  refine Met.ofW (cc := cX10_shot) (maxL := 6) (ret := (some .int)) (by decide) rfl ?_
  intro p e s m args below meth c s₁ B hml hv
  obtain ⟨hav, hP0, hK⟩ := hv
  have hx := B.exec
  have hb := B.bytes
  have hr0 := B.returns
  have hts := atoms_spec (ws := wsX10_shot) B.pre
  have hown : s.vm.findClass RX10 = some m.cls := findClass_of_methodNamed B.named
  have hlocks := B.notSynchronized
  have hW := xstart hP0
  have hi10 : ∀ w ∈ wsX100, w ∈ wsX10_shot := fun w h => List.mem_cons_of_mem _ (List.mem_append_left _ (List.mem_append_left _ (List.mem_append_left _ (List.mem_append_left _ (List.mem_append_left _ (List.mem_append_left _ (List.mem_append_left _ (List.mem_append_right _ h))))))))
  have hl := lv_entry ([.ref (ad 224), .int x1, .int x2, .int x3, .int x4]) (n := 6) (Nat.le_of_ble_eq_true rfl)
  have hef := lg_entry_eq m ([.ref (ad 224), .int x1, .int x2, .int x3, .int x4]) 6
  rw [← hav] at hef
  rw [hef]
  clear hef
  generalize (lg_sl ([.ref (ad 224), .int x1, .int x2, .int x3, .int x4]) ++ List.replicate (6 - (lg_sl ([.ref (ad 224), .int x1, .int x2, .int x3, .int x4])).length) Slot.unset).toArray = ls at hl ⊢
  have hl : lv_has ls 6 [(0, .ref (ad 224)), (1, .int x1), (2, .int x2), (3, .int x3), (4, .int x4)] := hl
  clear hP0
  unfold f_X10_shot at hr
  refine lv_aload_n hx hb dX10_shot_0 rfl (lv_at hl 0 rfl) ?_
  refine lv_iload_n hx hb dX10_shot_1 rfl (lv_at hl 1 rfl) ?_
  refine lv_iload_n hx hb dX10_shot_2 rfl (lv_at hl 2 rfl) ?_
  refine lv_iload_n hx hb dX10_shot_3 rfl (lv_at hl 3 rfl) ?_
  refine lv_iload hx hb dX10_shot_4 (lv_at hl 4 rfl) ?_
  obtain ⟨r_1, hc6, hr⟩ := ob1_e hr
  refine xk_i (va_runV (As := [.int x1, .int x2, .int x3, .int x4]) (rest := []) ⟨hx, hb, hml, hown, hts⟩ (c_X10_shotFault l D cA ad M x1 x2 x3 x4 hc6) (cwV 4 hts gX10_shot_X10_shotFault rfl rfl rfl (by decide +kernel) ⟨Nat.le_of_ble_eq_true rfl, Nat.le_of_ble_eq_true rfl⟩) (xpreV hK hW (k := 224) rfl (by decide) rfl) rfl rfl hl.1 rfl (lv_room (Nat.le_of_ble_eq_true rfl)) dX10_shot_6 ⟨Nat.le_of_ble_eq_true rfl, Nat.le_of_ble_eq_true rfl⟩) hW (fun H locs hW => ?_)
  refine lv_istore (lv' := [(5, .int r_1), (0, .ref (ad 224)), (1, .int x1), (2, .int x2), (3, .int x3), (4, .int x4)]) hx hb dX10_shot_9 hl (by decide) rfl (fun ls hl => ?_)
  refine lv_iload hx hb dX10_shot_11 (lv_at hl 0 rfl) ?_
  refine lv_if_eq (tgt := 19) hx hb dX10_shot_13 (by decide) (fun c1 => ?_) (fun c1 => ?_)
  · have hr := br_p c1 hr
    refine lv_aload_n hx hb dX10_shot_19 rfl (lv_at hl 1 rfl) ?_
    refine g10_1 hx hb hts hi10 hown hK hW (k := 224) rfl (hts _ (wm 1 rfl)) dX10_shot_20 ?_
    refine lv_aload_n hx hb dX10_shot_23 rfl (lv_at hl 1 rfl) ?_
    refine g10_0 hx hb hts hi10 hown hK hW (k := 224) rfl (hts _ (wm 2 rfl)) dX10_shot_24 ?_
    obtain ⟨M_2, hc27, hr⟩ := ob1_e hr
    refine xc_v (va_runV (As := [.ref (ad 0)]) (rest := []) ⟨hx, hb, hml, hown, hts⟩ (c_X1_push l D cA ad M hc27) (cwV 1 hts gX10_shot_X1_push rfl rfl rfl (by decide +kernel) ⟨Nat.le_of_ble_eq_true rfl, Nat.le_of_ble_eq_true rfl⟩) (xpreV hK hW (k := 225) rfl (by decide) rfl) rfl rfl hl.1 rfl (lv_room (Nat.le_of_ble_eq_true rfl)) dX10_shot_27 ⟨Nat.le_of_ble_eq_true rfl, Nat.le_of_ble_eq_true rfl⟩) hW (fun ad_3 H locs had2 hW => ?_)
    rw [← had2.1 224 rfl] at hl
    have had := had2
    refine lv_aload_n hx hb dX10_shot_30 rfl (lv_at hl 1 rfl) ?_
    refine lv_iload_n hx hb dX10_shot_31 rfl (lv_at hl 2 rfl) ?_
    refine lv_iload_n hx hb dX10_shot_32 rfl (lv_at hl 3 rfl) ?_
    refine lv_iload_n hx hb dX10_shot_33 rfl (lv_at hl 4 rfl) ?_
    refine lv_iload hx hb dX10_shot_34 (lv_at hl 5 rfl) ?_
    obtain ⟨r_5, M_4, hc36, hr⟩ := ob2_e hr
    refine xk_i (va_runV (As := [.int x1, .int x2, .int x3, .int x4]) (rest := []) ⟨hx, hb, hml, hown, hts⟩ (c_X10_takeShot l D cA ad_3 M_2 x1 x2 x3 x4 hc36) (cwV 4 hts gX10_shot_X10_takeShot rfl rfl rfl (by decide +kernel) ⟨Nat.le_of_ble_eq_true rfl, Nat.le_of_ble_eq_true rfl⟩) (xpreV hK hW (k := 224) rfl (by decide) rfl) rfl rfl hl.1 rfl (lv_room (Nat.le_of_ble_eq_true rfl)) dX10_shot_36 ⟨Nat.le_of_ble_eq_true rfl, Nat.le_of_ble_eq_true rfl⟩) hW (fun H locs hW => ?_)
    obtain ⟨e1, e2⟩ := Prod.mk.inj (Option.some.inj hr)
    rw [← e1, ← e2]
    exact xiret hx hb hr0 hlocks hW had dX10_shot_39
  · have hr := br_n c1 hr
    refine lv_iload hx hb dX10_shot_16 (lv_at hl 0 rfl) ?_
    obtain ⟨e1, e2⟩ := Prod.mk.inj (Option.some.inj hr)
    rw [← e1, ← e2]
    exact xiret hx hb hr0 hlocks hW adR_rf dX10_shot_18

set_option maxHeartbeats 4000000 in
set_option maxRecDepth 100000 in
theorem c_X10_closeRound (l : Launch) (D : va_G) (cA : Nat → ClassId) (ad : Nat → Nat) (M : Mm) {r : Int32} {M' : Mm} (hr : f_X10_closeRound M = some (r, M')) : Met l yX10_closeRound wsX10_closeRound ({ frames := 4, cells := 0, slots := 0, locals := 101 }) (PcX D true cA ad M [.ref (ad 224)]) (QiX true D true cA ad r M') 0 0 (AX true ad) := by
  refine Met.ofW (cc := cX10_closeRound) (maxL := 1) (ret := (some .int)) (by decide) rfl ?_
  intro p e s m args below meth c s₁ B hml hv
  obtain ⟨hav, hP0, hK⟩ := hv
  have hx := B.exec
  have hb := B.bytes
  have hr0 := B.returns
  have hts := atoms_spec (ws := wsX10_closeRound) B.pre
  have hown : s.vm.findClass RX10 = some m.cls := findClass_of_methodNamed B.named
  have hlocks := B.notSynchronized
  have hW := xstart hP0
  have hi2 : ∀ w ∈ wsX20, w ∈ wsX10_closeRound := fun w h => List.mem_cons_of_mem _ (List.mem_append_left _ (List.mem_append_left _ (List.mem_append_left _ (List.mem_append_left _ (List.mem_append_left _ (List.mem_append_right _ h))))))
  have hi8 : ∀ w ∈ wsX80, w ∈ wsX10_closeRound := fun w h => List.mem_cons_of_mem _ (List.mem_append_left _ (List.mem_append_left _ (List.mem_append_left _ (List.mem_append_left _ (List.mem_append_left _ (List.mem_append_left _ (List.mem_append_right _ h)))))))
  have hi10 : ∀ w ∈ wsX100, w ∈ wsX10_closeRound := fun w h => List.mem_cons_of_mem _ (List.mem_append_left _ (List.mem_append_left _ (List.mem_append_left _ (List.mem_append_left _ (List.mem_append_left _ (List.mem_append_left _ (List.mem_append_left _ (List.mem_append_right _ h))))))))
  have hl := lv_entry ([.ref (ad 224)]) (n := 1) (Nat.le_of_ble_eq_true rfl)
  have hef := lg_entry_eq m ([.ref (ad 224)]) 1
  rw [← hav] at hef
  rw [hef]
  clear hef
  generalize (lg_sl ([.ref (ad 224)]) ++ List.replicate (1 - (lg_sl ([.ref (ad 224)])).length) Slot.unset).toArray = ls at hl ⊢
  have hl : lv_has ls 1 [(0, .ref (ad 224))] := hl
  clear hP0
  unfold f_X10_closeRound at hr
  refine lv_aload_n hx hb dX10_closeRound_0 rfl (lv_at hl 0 rfl) ?_
  refine g10_0 hx hb hts hi10 hown hK hW (k := 224) rfl (hts _ (wm 1 rfl)) dX10_closeRound_1 ?_
  refine g8_1 hx hb hts hi8 hown hK hW (k := 0) rfl (hts _ (wm 2 rfl)) dX10_closeRound_4 ?_
  refine lv_if_ne (tgt := 13) hx hb dX10_closeRound_7 (by decide) (fun c1 => ?_) (fun c1 => ?_)
  · have hr := br_n c1 hr
    refine lv_aload_n hx hb dX10_closeRound_13 rfl (lv_at hl 0 rfl) ?_
    refine g10_6 hx hb hts hi10 hown hK hW (k := 224) rfl (hts _ (wm 4 rfl)) dX10_closeRound_14 ?_
    refine lv_aload_n hx hb dX10_closeRound_17 rfl (lv_at hl 0 rfl) ?_
    refine g10_0 hx hb hts hi10 hown hK hW (k := 224) rfl (hts _ (wm 1 rfl)) dX10_closeRound_18 ?_
    refine lv_aload_n hx hb dX10_closeRound_21 rfl (lv_at hl 0 rfl) ?_
    refine g10_0 hx hb hts hi10 hown hK hW (k := 224) rfl (hts _ (wm 1 rfl)) dX10_closeRound_22 ?_
    refine g8_3 hx hb hts hi8 hown hK hW (k := 0) rfl (hts _ (wm 5 rfl)) dX10_closeRound_25 ?_
    refine lv_iconst (v := (1 : Int32)) hx hb dX10_closeRound_28 (by decide) ?_
    refine xiald hx hb hK hW (k := 13) (t := 21) rfl (by decide) (by decide) rfl (n := 5) (by decide) (jx := 1) (by decide) dX10_closeRound_29 ?_
    obtain ⟨M_1, hc30, hr⟩ := ob1_e hr
    refine xk_v (va_runV (As := [.ref (ad 0), .int (gI M 13 1)]) (rest := []) ⟨hx, hb, hml, hown, hts⟩ (c_X2_judge l D cA ad M (gI M 13 1) hc30) (cwV 2 hts gX10_closeRound_X2_judge rfl rfl rfl (by decide +kernel) ⟨Nat.le_of_ble_eq_true rfl, Nat.le_of_ble_eq_true rfl⟩) (xpreV hK hW (k := 232) rfl (by decide) rfl) rfl rfl hl.1 rfl (lv_room (Nat.le_of_ble_eq_true rfl)) dX10_closeRound_30 ⟨Nat.le_of_ble_eq_true rfl, Nat.le_of_ble_eq_true rfl⟩) hW (fun H locs hW => ?_)
    refine lv_aload_n hx hb dX10_closeRound_33 rfl (lv_at hl 0 rfl) ?_
    refine g10_6 hx hb hts hi10 hown hK hW (k := 224) rfl (hts _ (wm 4 rfl)) dX10_closeRound_34 ?_
    refine lv_aload_n hx hb dX10_closeRound_37 rfl (lv_at hl 0 rfl) ?_
    refine g10_0 hx hb hts hi10 hown hK hW (k := 224) rfl (hts _ (wm 1 rfl)) dX10_closeRound_38 ?_
    obtain ⟨M_2, hc41, hr⟩ := ob1_e hr
    refine xc_v (va_runV (As := [.ref (ad 0)]) (rest := []) ⟨hx, hb, hml, hown, hts⟩ (c_X2_settle l D cA ad M_1 hc41) (cwV 1 hts gX10_closeRound_X2_settle rfl rfl rfl (by decide +kernel) ⟨Nat.le_of_ble_eq_true rfl, Nat.le_of_ble_eq_true rfl⟩) (xpreV hK hW (k := 232) rfl (by decide) rfl) rfl rfl hl.1 rfl (lv_room (Nat.le_of_ble_eq_true rfl)) dX10_closeRound_41 ⟨Nat.le_of_ble_eq_true rfl, Nat.le_of_ble_eq_true rfl⟩) hW (fun ad_3 H locs had2 hW => ?_)
    rw [← had2.1 224 rfl] at hl
    have had := had2
    refine lv_aload_n hx hb dX10_closeRound_44 rfl (lv_at hl 0 rfl) ?_
    refine g10_6 hx hb hts hi10 hown hK hW (k := 224) rfl (hts _ (wm 4 rfl)) dX10_closeRound_45 ?_
    refine g2_10 hx hb hts hi2 hown hK hW (k := 232) rfl (hts _ (wm 6 rfl)) dX10_closeRound_48 ?_
    obtain ⟨e1, e2⟩ := Prod.mk.inj (Option.some.inj hr)
    rw [← e1, ← e2]
    exact xiret hx hb hr0 hlocks hW had dX10_closeRound_51
  · have hr := br_p c1 hr
    refine lv_ldc (v := (-2000000003 : Int32)) hx hb hown (hts _ (wm 3 rfl)) dX10_closeRound_10 ?_
    obtain ⟨e1, e2⟩ := Prod.mk.inj (Option.some.inj hr)
    rw [← e1, ← e2]
    exact xiret hx hb hr0 hlocks hW adR_rf dX10_closeRound_12

set_option maxHeartbeats 4000000 in
set_option maxRecDepth 100000 in
theorem c_X10_close (l : Launch) (D : va_G) (cA : Nat → ClassId) (ad : Nat → Nat) (M : Mm) {r : Int32} {M' : Mm} (hr : f_X10_close M = some (r, M')) : Met l yX10_close wsX10_close ({ frames := 5, cells := 0, slots := 0, locals := 124 }) (PcX D true cA ad M [.ref (ad 224)]) (QiX true D true cA ad r M') 0 0 (AX true ad) := by
  refine Met.ofW (cc := cX10_close) (maxL := 1) (ret := (some .int)) (by decide) rfl ?_
  intro p e s m args below meth c s₁ B hml hv
  obtain ⟨hav, hP0, hK⟩ := hv
  have hx := B.exec
  have hb := B.bytes
  have hr0 := B.returns
  have hts := atoms_spec (ws := wsX10_close) B.pre
  have hown : s.vm.findClass RX10 = some m.cls := findClass_of_methodNamed B.named
  have hlocks := B.notSynchronized
  have hW := xstart hP0
  have hi8 : ∀ w ∈ wsX80, w ∈ wsX10_close := fun w h => List.mem_cons_of_mem _ (List.mem_append_left _ (List.mem_append_left _ (List.mem_append_left _ (List.mem_append_left _ (List.mem_append_left _ (List.mem_append_left _ (List.mem_append_left _ (List.mem_append_right _ h))))))))
  have hi10 : ∀ w ∈ wsX100, w ∈ wsX10_close := fun w h => List.mem_cons_of_mem _ (List.mem_append_left _ (List.mem_append_left _ (List.mem_append_left _ (List.mem_append_left _ (List.mem_append_left _ (List.mem_append_left _ (List.mem_append_left _ (List.mem_append_left _ (List.mem_append_right _ h)))))))))
  have hl := lv_entry ([.ref (ad 224)]) (n := 1) (Nat.le_of_ble_eq_true rfl)
  have hef := lg_entry_eq m ([.ref (ad 224)]) 1
  rw [← hav] at hef
  rw [hef]
  clear hef
  generalize (lg_sl ([.ref (ad 224)]) ++ List.replicate (1 - (lg_sl ([.ref (ad 224)])).length) Slot.unset).toArray = ls at hl ⊢
  have hl : lv_has ls 1 [(0, .ref (ad 224))] := hl
  clear hP0
  unfold f_X10_close at hr
  refine lv_aload_n hx hb dX10_close_0 rfl (lv_at hl 0 rfl) ?_
  refine g10_0 hx hb hts hi10 hown hK hW (k := 224) rfl (hts _ (wm 1 rfl)) dX10_close_1 ?_
  refine g8_1 hx hb hts hi8 hown hK hW (k := 0) rfl (hts _ (wm 2 rfl)) dX10_close_4 ?_
  refine lv_if_ne (tgt := 13) hx hb dX10_close_7 (by decide) (fun c1 => ?_) (fun c1 => ?_)
  · have hr := br_n c1 hr
    refine lv_aload_n hx hb dX10_close_13 rfl (lv_at hl 0 rfl) ?_
    refine g10_1 hx hb hts hi10 hown hK hW (k := 224) rfl (hts _ (wm 4 rfl)) dX10_close_14 ?_
    refine lv_aload_n hx hb dX10_close_17 rfl (lv_at hl 0 rfl) ?_
    refine g10_0 hx hb hts hi10 hown hK hW (k := 224) rfl (hts _ (wm 1 rfl)) dX10_close_18 ?_
    obtain ⟨M_1, hc21, hr⟩ := ob1_e hr
    refine xc_v (va_runV (As := [.ref (ad 0)]) (rest := []) ⟨hx, hb, hml, hown, hts⟩ (c_X1_push l D cA ad M hc21) (cwV 1 hts gX10_close_X1_push rfl rfl rfl (by decide +kernel) ⟨Nat.le_of_ble_eq_true rfl, Nat.le_of_ble_eq_true rfl⟩) (xpreV hK hW (k := 225) rfl (by decide) rfl) rfl rfl hl.1 rfl (lv_room (Nat.le_of_ble_eq_true rfl)) dX10_close_21 ⟨Nat.le_of_ble_eq_true rfl, Nat.le_of_ble_eq_true rfl⟩) hW (fun ad_2 H locs had2 hW => ?_)
    rw [← had2.1 224 rfl] at hl
    have had := had2
    refine lv_aload_n hx hb dX10_close_24 rfl (lv_at hl 0 rfl) ?_
    obtain ⟨r_4, M_3, hc25, hr⟩ := ob2_e hr
    refine xc_i (va_runV (As := []) (rest := []) ⟨hx, hb, hml, hown, hts⟩ (c_X10_closeRound l D cA ad_2 M_1 hc25) (cwV 0 hts gX10_close_X10_closeRound rfl rfl rfl (by decide +kernel) ⟨Nat.le_of_ble_eq_true rfl, Nat.le_of_ble_eq_true rfl⟩) (xpreV hK hW (k := 224) rfl (by decide) rfl) rfl rfl hl.1 rfl (lv_room (Nat.le_of_ble_eq_true rfl)) dX10_close_25 ⟨Nat.le_of_ble_eq_true rfl, Nat.le_of_ble_eq_true rfl⟩) hW (fun ad_5 H locs had2 hW => ?_)
    have hl := lv_sub (l' := []) hl [] rfl
    have had := adR_tr had had2
    obtain ⟨e1, e2⟩ := Prod.mk.inj (Option.some.inj hr)
    rw [← e1, ← e2]
    exact xiret hx hb hr0 hlocks hW had dX10_close_28
  · have hr := br_p c1 hr
    refine lv_ldc (v := (-2000000003 : Int32)) hx hb hown (hts _ (wm 3 rfl)) dX10_close_10 ?_
    obtain ⟨e1, e2⟩ := Prod.mk.inj (Option.some.inj hr)
    rw [← e1, ← e2]
    exact xiret hx hb hr0 hlocks hW adR_rf dX10_close_12

set_option maxHeartbeats 4000000 in
set_option maxRecDepth 100000 in
theorem c_X10_swapTransducers (l : Launch) (D : va_G) (cA : Nat → ClassId) (ad : Nat → Nat) (M : Mm) {r : Int32} {M' : Mm} (hr : f_X10_swapTransducers M = some (r, M')) : Met l yX10_swapTransducers wsX10_swapTransducers ({ frames := 3, cells := 0, slots := 0, locals := 66 }) (PcX D true cA ad M [.ref (ad 224)]) (QiX false D true cA ad r M') 0 0 (AX true ad) := by
  refine Met.ofW (cc := cX10_swapTransducers) (maxL := 1) (ret := (some .int)) (by decide) rfl ?_
  intro p e s m args below meth c s₁ B hml hv
  obtain ⟨hav, hP0, hK⟩ := hv
  have hx := B.exec
  have hb := B.bytes
  have hr0 := B.returns
  have hts := atoms_spec (ws := wsX10_swapTransducers) B.pre
  have hown : s.vm.findClass RX10 = some m.cls := findClass_of_methodNamed B.named
  have hlocks := B.notSynchronized
  have hW := xstart hP0
  have hi8 : ∀ w ∈ wsX80, w ∈ wsX10_swapTransducers := fun w h => List.mem_cons_of_mem _ (List.mem_append_left _ (List.mem_append_left _ (List.mem_append_right _ h)))
  have hi10 : ∀ w ∈ wsX100, w ∈ wsX10_swapTransducers := fun w h => List.mem_cons_of_mem _ (List.mem_append_left _ (List.mem_append_left _ (List.mem_append_left _ (List.mem_append_right _ h))))
  have hl := lv_entry ([.ref (ad 224)]) (n := 1) (Nat.le_of_ble_eq_true rfl)
  have hef := lg_entry_eq m ([.ref (ad 224)]) 1
  rw [← hav] at hef
  rw [hef]
  clear hef
  generalize (lg_sl ([.ref (ad 224)]) ++ List.replicate (1 - (lg_sl ([.ref (ad 224)])).length) Slot.unset).toArray = ls at hl ⊢
  have hl : lv_has ls 1 [(0, .ref (ad 224))] := hl
  clear hP0
  unfold f_X10_swapTransducers at hr
  refine lv_aload_n hx hb dX10_swapTransducers_0 rfl (lv_at hl 0 rfl) ?_
  refine g10_0 hx hb hts hi10 hown hK hW (k := 224) rfl (hts _ (wm 1 rfl)) dX10_swapTransducers_1 ?_
  obtain ⟨M_1, hc4, hr⟩ := ob1_e hr
  refine xk_v (va_runV (As := []) (rest := []) ⟨hx, hb, hml, hown, hts⟩ (c_X8_exchangeTimes l D cA ad M hc4) (cwV 0 hts gX10_swapTransducers_X8_exchangeTimes rfl rfl rfl (by decide +kernel) ⟨Nat.le_of_ble_eq_true rfl, Nat.le_of_ble_eq_true rfl⟩) (xpreV hK hW (k := 0) rfl (by decide) rfl) rfl rfl hl.1 rfl (lv_room (Nat.le_of_ble_eq_true rfl)) dX10_swapTransducers_4 ⟨Nat.le_of_ble_eq_true rfl, Nat.le_of_ble_eq_true rfl⟩) hW (fun H locs hW => ?_)
  refine lv_aload_n hx hb dX10_swapTransducers_7 rfl (lv_at hl 0 rfl) ?_
  refine g10_0 hx hb hts hi10 hown hK hW (k := 224) rfl (hts _ (wm 1 rfl)) dX10_swapTransducers_8 ?_
  refine lv_aload_n hx hb dX10_swapTransducers_11 rfl (lv_at hl 0 rfl) ?_
  refine g10_0 hx hb hts hi10 hown hK hW (k := 224) rfl (hts _ (wm 1 rfl)) dX10_swapTransducers_12 ?_
  refine g8_4 hx hb hts hi8 hown hK hW (k := 0) rfl (hts _ (wm 2 rfl)) dX10_swapTransducers_15 ?_
  obtain ⟨y_2, hr, hr3⟩ := ob1_e hr
  have hj26_2 : ∀ (H : Heap) (locs : List Loc) (ls : Array Slot), Xw D true cA ad M_1 (AX true ad) s.heap H locs → lv_has ls 1 [(0, .ref (ad 224))] → W p l e (headSpec wsX10_swapTransducers { frames := 3, cells := 0, slots := 0, locals := 66 }).room s m args below meth c H locs 0 0 (MQ below (QiX false D true cA ad r M') args s 0 0 (AX true ad)) (F0 m 26 ls [.int y_2, .ref (ad 0)]) := by
    intro H locs ls hW hl
    have hr := hr3
    obtain ⟨hz26, hr⟩ := chk_e hr
    obtain ⟨M_3, eM_3, hr⟩ := lt1_e hr
    refine p8_4 hx hb hts hi8 hown hK hW (k := 0) rfl (hts _ (wm 2 rfl)) hz26 dX10_swapTransducers_26 (fun H locs hW => ?_)
    rw [← eM_3] at hW
    refine lv_aload_n hx hb dX10_swapTransducers_29 rfl (lv_at hl 0 rfl) ?_
    refine g10_0 hx hb hts hi10 hown hK hW (k := 224) rfl (hts _ (wm 1 rfl)) dX10_swapTransducers_30 ?_
    refine g8_4 hx hb hts hi8 hown hK hW (k := 0) rfl (hts _ (wm 2 rfl)) dX10_swapTransducers_33 ?_
    obtain ⟨r_4, hc36, hr⟩ := ob1_e hr
    refine xk_i (va_runS (As := [.int (gI M_3 0 4)]) (rest := []) ⟨hx, hb, hml, hown, hts⟩ (c_X10_asNumber l D cA ad M_3 (gI M_3 0 4) hc36) (va_cwS 1 hts gX10_swapTransducers_X10_asNumber rfl rfl rfl (by decide +kernel) ⟨Nat.le_of_ble_eq_true rfl, Nat.le_of_ble_eq_true rfl⟩) (xpreS hK hW) rfl rfl hl.1 rfl (lv_room (Nat.le_of_ble_eq_true rfl)) dX10_swapTransducers_36 ⟨Nat.le_of_ble_eq_true rfl, Nat.le_of_ble_eq_true rfl⟩) hW (fun H locs hW => ?_)
    obtain ⟨e1, e2⟩ := Prod.mk.inj (Option.some.inj hr)
    rw [← e1, ← e2]
    exact xiret hx hb hr0 hlocks hW adR_rf dX10_swapTransducers_39
  clear hr3
  refine lv_if_ne (tgt := 25) hx hb dX10_swapTransducers_18 (by decide) (fun c1 => ?_) (fun c1 => ?_)
  · have hr := br_n c1 hr
    refine lv_iconst (v := (0 : Int32)) hx hb dX10_swapTransducers_25 (by decide) ?_
    have e1 := Option.some.inj hr
    subst e1
    exact hj26_2 _ _ _ hW (lv_sub hl [0] rfl)
  · have hr := br_p c1 hr
    refine lv_iconst (v := (1 : Int32)) hx hb dX10_swapTransducers_21 (by decide) ?_
    refine lv_goto (tgt := 26) hx hb dX10_swapTransducers_22 (by decide) ?_
    have e1 := Option.some.inj hr
    subst e1
    exact hj26_2 _ _ _ hW (lv_sub hl [0] rfl)

set_option maxHeartbeats 4000000 in
set_option maxRecDepth 100000 in
theorem c_X10_swap (l : Launch) (D : va_G) (cA : Nat → ClassId) (ad : Nat → Nat) (M : Mm) {r : Int32} {M' : Mm} (hr : f_X10_swap M = some (r, M')) : Met l yX10_swap wsX10_swap ({ frames := 4, cells := 0, slots := 0, locals := 124 }) (PcX D true cA ad M [.ref (ad 224)]) (QiX true D true cA ad r M') 0 0 (AX true ad) := by
  refine Met.ofW (cc := cX10_swap) (maxL := 1) (ret := (some .int)) (by decide) rfl ?_
  intro p e s m args below meth c s₁ B hml hv
  obtain ⟨hav, hP0, hK⟩ := hv
  have hx := B.exec
  have hb := B.bytes
  have hr0 := B.returns
  have hts := atoms_spec (ws := wsX10_swap) B.pre
  have hown : s.vm.findClass RX10 = some m.cls := findClass_of_methodNamed B.named
  have hlocks := B.notSynchronized
  have hW := xstart hP0
  have hi10 : ∀ w ∈ wsX100, w ∈ wsX10_swap := fun w h => List.mem_cons_of_mem _ (List.mem_append_left _ (List.mem_append_left _ (List.mem_append_left _ (List.mem_append_left _ (List.mem_append_left _ (List.mem_append_left _ (List.mem_append_left _ (List.mem_append_right _ h))))))))
  have hl := lv_entry ([.ref (ad 224)]) (n := 1) (Nat.le_of_ble_eq_true rfl)
  have hef := lg_entry_eq m ([.ref (ad 224)]) 1
  rw [← hav] at hef
  rw [hef]
  clear hef
  generalize (lg_sl ([.ref (ad 224)]) ++ List.replicate (1 - (lg_sl ([.ref (ad 224)])).length) Slot.unset).toArray = ls at hl ⊢
  have hl : lv_has ls 1 [(0, .ref (ad 224))] := hl
  clear hP0
  unfold f_X10_swap at hr
  refine lv_aload_n hx hb dX10_swap_0 rfl (lv_at hl 0 rfl) ?_
  refine g10_1 hx hb hts hi10 hown hK hW (k := 224) rfl (hts _ (wm 1 rfl)) dX10_swap_1 ?_
  refine lv_aload_n hx hb dX10_swap_4 rfl (lv_at hl 0 rfl) ?_
  refine g10_0 hx hb hts hi10 hown hK hW (k := 224) rfl (hts _ (wm 2 rfl)) dX10_swap_5 ?_
  obtain ⟨M_1, hc8, hr⟩ := ob1_e hr
  refine xc_v (va_runV (As := [.ref (ad 0)]) (rest := []) ⟨hx, hb, hml, hown, hts⟩ (c_X1_push l D cA ad M hc8) (cwV 1 hts gX10_swap_X1_push rfl rfl rfl (by decide +kernel) ⟨Nat.le_of_ble_eq_true rfl, Nat.le_of_ble_eq_true rfl⟩) (xpreV hK hW (k := 225) rfl (by decide) rfl) rfl rfl hl.1 rfl (lv_room (Nat.le_of_ble_eq_true rfl)) dX10_swap_8 ⟨Nat.le_of_ble_eq_true rfl, Nat.le_of_ble_eq_true rfl⟩) hW (fun ad_2 H locs had2 hW => ?_)
  rw [← had2.1 224 rfl] at hl
  have had := had2
  refine lv_aload_n hx hb dX10_swap_11 rfl (lv_at hl 0 rfl) ?_
  obtain ⟨r_4, M_3, hc12, hr⟩ := ob2_e hr
  refine xk_i (va_runV (As := []) (rest := []) ⟨hx, hb, hml, hown, hts⟩ (c_X10_swapTransducers l D cA ad_2 M_1 hc12) (cwV 0 hts gX10_swap_X10_swapTransducers rfl rfl rfl (by decide +kernel) ⟨Nat.le_of_ble_eq_true rfl, Nat.le_of_ble_eq_true rfl⟩) (xpreV hK hW (k := 224) rfl (by decide) rfl) rfl rfl hl.1 rfl (lv_room (Nat.le_of_ble_eq_true rfl)) dX10_swap_12 ⟨Nat.le_of_ble_eq_true rfl, Nat.le_of_ble_eq_true rfl⟩) hW (fun H locs hW => ?_)
  obtain ⟨e1, e2⟩ := Prod.mk.inj (Option.some.inj hr)
  rw [← e1, ← e2]
  exact xiret hx hb hr0 hlocks hW had dX10_swap_15

set_option maxHeartbeats 4000000 in
set_option maxRecDepth 100000 in
theorem c_X10_forget (l : Launch) (D : va_G) (cA : Nat → ClassId) (ad : Nat → Nat) (M : Mm) (x1 : Int32) {r : Int32} {M' : Mm} (hr : f_X10_forget x1 M = some (r, M')) : Met l yX10_forget wsX10_forget ({ frames := 4, cells := 0, slots := 0, locals := 124 }) (PcX D true cA ad M [.ref (ad 224), .int x1]) (QiX true D true cA ad r M') 0 0 (AX true ad) := by
  refine Met.ofW (cc := cX10_forget) (maxL := 4) (ret := (some .int)) (by decide) rfl ?_
  intro p e s m args below meth c s₁ B hml hv
  obtain ⟨hav, hP0, hK⟩ := hv
  have hx := B.exec
  have hb := B.bytes
  have hr0 := B.returns
  have hts := atoms_spec (ws := wsX10_forget) B.pre
  have hown : s.vm.findClass RX10 = some m.cls := findClass_of_methodNamed B.named
  have hlocks := B.notSynchronized
  have hW := xstart hP0
  have hi3 : ∀ w ∈ wsX30, w ∈ wsX10_forget := fun w h => List.mem_cons_of_mem _ (List.mem_append_left _ (List.mem_append_left _ (List.mem_append_left _ (List.mem_append_left _ (List.mem_append_left _ (List.mem_append_left _ (List.mem_append_right _ h)))))))
  have hi10 : ∀ w ∈ wsX100, w ∈ wsX10_forget := fun w h => List.mem_cons_of_mem _ (List.mem_append_left _ (List.mem_append_left _ (List.mem_append_left _ (List.mem_append_left _ (List.mem_append_left _ (List.mem_append_left _ (List.mem_append_left _ (List.mem_append_right _ h))))))))
  have hl := lv_entry ([.ref (ad 224), .int x1]) (n := 4) (Nat.le_of_ble_eq_true rfl)
  have hef := lg_entry_eq m ([.ref (ad 224), .int x1]) 4
  rw [← hav] at hef
  rw [hef]
  clear hef
  generalize (lg_sl ([.ref (ad 224), .int x1]) ++ List.replicate (4 - (lg_sl ([.ref (ad 224), .int x1])).length) Slot.unset).toArray = ls at hl ⊢
  have hl : lv_has ls 4 [(0, .ref (ad 224)), (1, .int x1)] := hl
  clear hP0
  unfold f_X10_forget at hr
  refine lv_aload_n hx hb dX10_forget_0 rfl (lv_at hl 0 rfl) ?_
  refine g10_0 hx hb hts hi10 hown hK hW (k := 224) rfl (hts _ (wm 1 rfl)) dX10_forget_1 ?_
  refine lv_iload_n hx hb dX10_forget_4 rfl (lv_at hl 1 rfl) ?_
  obtain ⟨r_1, hc5, hr⟩ := ob1_e hr
  refine xk_q (va_runV (As := [.int x1]) (rest := []) ⟨hx, hb, hml, hown, hts⟩ (c_X8_pathAt l D cA ad M x1 hc5) (cwV 1 hts gX10_forget_X8_pathAt rfl rfl rfl (by decide +kernel) ⟨Nat.le_of_ble_eq_true rfl, Nat.le_of_ble_eq_true rfl⟩) (xpreV hK hW (k := 0) rfl (by decide) rfl) rfl rfl hl.1 rfl (lv_room (Nat.le_of_ble_eq_true rfl)) dX10_forget_5 ⟨Nat.le_of_ble_eq_true rfl, Nat.le_of_ble_eq_true rfl⟩) hW (fun H locs hW => ?_)
  cases r_1 with
  | none =>
    have hr : _ = _ := hr
    simp only [onl] at hr
    refine lv_astore_nN (lv' := [(2, .null), (0, .ref (ad 224)), (1, .int x1)]) hx hb dX10_forget_8 rfl hl (by decide) rfl (fun ls hl => ?_)
    refine lv_aload_nN hx hb dX10_forget_9 rfl (lv_at hl 0 rfl) ?_
    refine lv_ifnonnullN hx hb dX10_forget_10 ?_
    refine lv_ldc (v := (-2000000001 : Int32)) hx hb hown (hts _ (wm 2 rfl)) dX10_forget_13 ?_
    obtain ⟨e1, e2⟩ := Prod.mk.inj (Option.some.inj hr)
    rw [← e1, ← e2]
    exact xiret hx hb hr0 hlocks hW adR_rf dX10_forget_15
  | some k_2 =>
    simp only [onl] at hr
    obtain ⟨hk5, hr⟩ := chk_e hr
    have hk5 := of_decide_eq_true hk5
    refine lv_astore_n (lv' := [(2, .ref (ad k_2)), (0, .ref (ad 224)), (1, .int x1)]) hx hb dX10_forget_8 rfl hl (by decide) rfl (fun ls hl => ?_)
    refine lv_aload_n hx hb dX10_forget_9 rfl (lv_at hl 0 rfl) ?_
    refine lv_ifnonnull (tgt := 16) hx hb dX10_forget_10 (by decide) ?_
    refine lv_aload_n hx hb dX10_forget_16 rfl (lv_at hl 1 rfl) ?_
    refine g10_1 hx hb hts hi10 hown hK hW (k := 224) rfl (hts _ (wm 3 rfl)) dX10_forget_17 ?_
    refine lv_aload_n hx hb dX10_forget_20 rfl (lv_at hl 1 rfl) ?_
    refine g10_0 hx hb hts hi10 hown hK hW (k := 224) rfl (hts _ (wm 1 rfl)) dX10_forget_21 ?_
    obtain ⟨hst24_2, hr⟩ := chk_e hr
    obtain ⟨M_3, hc24, hr⟩ := ob1_e hr
    refine xc_v (va_runV (As := [.ref (ad 0)]) (rest := []) ⟨hx, hb, hml, hown, hts⟩ (c_X1_push l D cA ad M hc24) (cwV 1 hts gX10_forget_X1_push rfl rfl rfl (by decide +kernel) ⟨Nat.le_of_ble_eq_true rfl, Nat.le_of_ble_eq_true rfl⟩) (xpreV hK hW (k := 225) rfl (by decide) rfl) rfl rfl hl.1 rfl (lv_room (Nat.le_of_ble_eq_true rfl)) dX10_forget_24 ⟨Nat.le_of_ble_eq_true rfl, Nat.le_of_ble_eq_true rfl⟩) hW (fun ad_4 H locs had2 hW => ?_)
    have hl := lv_sub (l' := [(2, .ref (ad k_2)), (1, .int x1)]) hl [0, 2] rfl
    rw [← had2.1 k_2 hst24_2] at hl
    have had := had2
    refine lv_aload_n hx hb dX10_forget_27 rfl (lv_at hl 0 rfl) ?_
    refine g3_5 hx hb hts hi3 hown hK hW (k := k_2) hk5 (hts _ (wm 4 rfl)) dX10_forget_28 ?_
    obtain ⟨r_5, hc31, hr⟩ := ob1_e hr
    refine xk_i (va_runS (As := [.int (gI M_3 k_2 5)]) (rest := []) ⟨hx, hb, hml, hown, hts⟩ (c_X10_asNumber l D cA ad_4 M_3 (gI M_3 k_2 5) hc31) (va_cwS 1 hts gX10_forget_X10_asNumber rfl rfl rfl (by decide +kernel) ⟨Nat.le_of_ble_eq_true rfl, Nat.le_of_ble_eq_true rfl⟩) (xpreS hK hW) rfl rfl hl.1 rfl (lv_room (Nat.le_of_ble_eq_true rfl)) dX10_forget_31 ⟨Nat.le_of_ble_eq_true rfl, Nat.le_of_ble_eq_true rfl⟩) hW (fun H locs hW => ?_)
    refine lv_istore_n (lv' := [(3, .int r_5), (2, .ref (ad_4 k_2)), (1, .int x1)]) hx hb dX10_forget_34 rfl hl (by decide) rfl (fun ls hl => ?_)
    refine lv_aload_n hx hb dX10_forget_35 rfl (lv_at hl 1 rfl) ?_
    refine lv_iconst (v := (0 : Int32)) hx hb dX10_forget_36 (by decide) ?_
    obtain ⟨M_6, eM_6, hr⟩ := lt1_e hr
    refine p3_5 hx hb hts hi3 hown hK hW (k := k_2) hk5 (hts _ (wm 4 rfl)) (by decide) dX10_forget_37 (fun H locs hW => ?_)
    rw [← eM_6] at hW
    refine lv_aload_n hx hb dX10_forget_40 rfl (lv_at hl 1 rfl) ?_
    refine lv_iconst (v := (0 : Int32)) hx hb dX10_forget_41 (by decide) ?_
    obtain ⟨M_7, eM_7, hr⟩ := lt1_e hr
    refine p3_8 hx hb hts hi3 hown hK hW (k := k_2) hk5 (hts _ (wm 5 rfl)) (by decide) dX10_forget_42 (fun H locs hW => ?_)
    rw [← eM_7] at hW
    refine lv_iload_n hx hb dX10_forget_45 rfl (lv_at hl 0 rfl) ?_
    obtain ⟨e1, e2⟩ := Prod.mk.inj (Option.some.inj hr)
    rw [← e1, ← e2]
    exact xiret hx hb hr0 hlocks hW had dX10_forget_46

set_option maxHeartbeats 4000000 in
set_option maxRecDepth 100000 in
theorem c_X10_append (l : Launch) (D : va_G) (cA : Nat → ClassId) (ad : Nat → Nat) (M : Mm) (x1 : Int32) {r : Int32} {M' : Mm} (hr : f_X10_append x1 M = some (r, M')) : Met l yX10_append wsX10_append ({ frames := 1, cells := 0, slots := 0, locals := 22 }) (PcX D true cA ad M [.ref (ad 224), .int x1]) (QiX false D true cA ad r M') 0 0 (AX true ad) := by
  refine Met.ofW (cc := cX10_append) (maxL := 2) (ret := (some .int)) (by decide) rfl ?_
  intro p e s m args below meth c s₁ B hml hv
  obtain ⟨hav, hP0, hK⟩ := hv
  have hx := B.exec
  have hb := B.bytes
  have hr0 := B.returns
  have hts := atoms_spec (ws := wsX10_append) B.pre
  have hown : s.vm.findClass RX10 = some m.cls := findClass_of_methodNamed B.named
  have hlocks := B.notSynchronized
  have hW := xstart hP0
  have hi9 : ∀ w ∈ wsX90, w ∈ wsX10_append := fun w h => List.mem_cons_of_mem _ (List.mem_append_right _ h)
  have hi10 : ∀ w ∈ wsX100, w ∈ wsX10_append := fun w h => List.mem_cons_of_mem _ (List.mem_append_left _ (List.mem_append_right _ h))
  have hl := lv_entry ([.ref (ad 224), .int x1]) (n := 2) (Nat.le_of_ble_eq_true rfl)
  have hef := lg_entry_eq m ([.ref (ad 224), .int x1]) 2
  rw [← hav] at hef
  rw [hef]
  clear hef
  generalize (lg_sl ([.ref (ad 224), .int x1]) ++ List.replicate (2 - (lg_sl ([.ref (ad 224), .int x1])).length) Slot.unset).toArray = ls at hl ⊢
  have hl : lv_has ls 2 [(0, .ref (ad 224)), (1, .int x1)] := hl
  clear hP0
  unfold f_X10_append at hr
  refine lv_iload_n hx hb dX10_append_0 rfl (lv_at hl 1 rfl) ?_
  refine lv_bipush (v := (32 : Int32)) hx hb dX10_append_1 (by decide) ?_
  refine lv_bipush (v := (126 : Int32)) hx hb dX10_append_3 (by decide) ?_
  obtain ⟨r_1, hc5, hr⟩ := ob1_e hr
  refine xk_i (va_runS (As := [.int x1, .int (32 : Int32), .int (126 : Int32)]) (rest := []) ⟨hx, hb, hml, hown, hts⟩ (c_X10_isWithin l D cA ad M x1 (32 : Int32) (126 : Int32) hc5) (va_cwS 3 hts gX10_append_X10_isWithin rfl rfl rfl (by decide +kernel) ⟨Nat.le_of_ble_eq_true rfl, Nat.le_of_ble_eq_true rfl⟩) (xpreS hK hW) rfl rfl hl.1 rfl (lv_room (Nat.le_of_ble_eq_true rfl)) dX10_append_5 ⟨Nat.le_of_ble_eq_true rfl, Nat.le_of_ble_eq_true rfl⟩) hW (fun H locs hW => ?_)
  refine lv_if_ne (tgt := 14) hx hb dX10_append_8 (by decide) (fun c1 => ?_) (fun c1 => ?_)
  · have hr := br_n c1 hr
    refine lv_aload_n hx hb dX10_append_14 rfl (lv_at hl 0 rfl) ?_
    refine g10_5 hx hb hts hi10 hown hK hW (k := 224) rfl (hts _ (wm 2 rfl)) dX10_append_15 ?_
    refine g9_1 hx hb hts hi9 hown hK hW (k := 230) rfl (hts _ (wm 3 rfl)) dX10_append_18 ?_
    refine lv_bipush (v := (100 : Int32)) hx hb dX10_append_21 (by decide) ?_
    refine lv_icmp_lt (tgt := 29) hx hb dX10_append_23 (by decide) (fun c1 => ?_) (fun c1 => ?_)
    · have hr := br_p c1 hr
      refine lv_aload_n hx hb dX10_append_29 rfl (lv_at hl 0 rfl) ?_
      refine g10_5 hx hb hts hi10 hown hK hW (k := 224) rfl (hts _ (wm 2 rfl)) dX10_append_30 ?_
      refine lv_iload_n hx hb dX10_append_33 rfl (lv_at hl 1 rfl) ?_
      obtain ⟨M_2, hc34, hr⟩ := ob1_e hr
      refine xk_v (va_runV (As := [.int x1]) (rest := []) ⟨hx, hb, hml, hown, hts⟩ (c_X9_put l D cA ad M x1 hc34) (cwV 1 hts gX10_append_X9_put rfl rfl rfl (by decide +kernel) ⟨Nat.le_of_ble_eq_true rfl, Nat.le_of_ble_eq_true rfl⟩) (xpreV hK hW (k := 230) rfl (by decide) rfl) rfl rfl hl.1 rfl (lv_room (Nat.le_of_ble_eq_true rfl)) dX10_append_34 ⟨Nat.le_of_ble_eq_true rfl, Nat.le_of_ble_eq_true rfl⟩) hW (fun H locs hW => ?_)
      refine lv_aload_n hx hb dX10_append_37 rfl (lv_at hl 0 rfl) ?_
      refine g10_5 hx hb hts hi10 hown hK hW (k := 224) rfl (hts _ (wm 2 rfl)) dX10_append_38 ?_
      refine g9_1 hx hb hts hi9 hown hK hW (k := 230) rfl (hts _ (wm 3 rfl)) dX10_append_41 ?_
      obtain ⟨e1, e2⟩ := Prod.mk.inj (Option.some.inj hr)
      rw [← e1, ← e2]
      exact xiret hx hb hr0 hlocks hW adR_rf dX10_append_44
    · have hr := br_n c1 hr
      refine lv_ldc (v := (-2000000004 : Int32)) hx hb hown (hts _ (wm 4 rfl)) dX10_append_26 ?_
      obtain ⟨e1, e2⟩ := Prod.mk.inj (Option.some.inj hr)
      rw [← e1, ← e2]
      exact xiret hx hb hr0 hlocks hW adR_rf dX10_append_28
  · have hr := br_p c1 hr
    refine lv_ldc (v := (-2000000002 : Int32)) hx hb hown (hts _ (wm 1 rfl)) dX10_append_11 ?_
    obtain ⟨e1, e2⟩ := Prod.mk.inj (Option.some.inj hr)
    rw [← e1, ← e2]
    exact xiret hx hb hr0 hlocks hW adR_rf dX10_append_13

set_option maxHeartbeats 4000000 in
set_option maxRecDepth 100000 in
theorem c_X10_clearText (l : Launch) (D : va_G) (cA : Nat → ClassId) (ad : Nat → Nat) (M : Mm) {r : Int32} {M' : Mm} (hr : f_X10_clearText M = some (r, M')) : Met l yX10_clearText wsX10_clearText ({ frames := 0, cells := 0, slots := 0, locals := 0 }) (PcX D true cA ad M [.ref (ad 224)]) (QiX false D true cA ad r M') 0 0 (AX true ad) := by
  refine Met.ofW (cc := cX10_clearText) (maxL := 2) (ret := (some .int)) (by decide) rfl ?_
  intro p e s m args below meth c s₁ B hml hv
  obtain ⟨hav, hP0, hK⟩ := hv
  have hx := B.exec
  have hb := B.bytes
  have hr0 := B.returns
  have hts := atoms_spec (ws := wsX10_clearText) B.pre
  have hown : s.vm.findClass RX10 = some m.cls := findClass_of_methodNamed B.named
  have hlocks := B.notSynchronized
  have hW := xstart hP0
  have hi9 : ∀ w ∈ wsX90, w ∈ wsX10_clearText := fun w h => List.mem_cons_of_mem _ (List.mem_append_right _ h)
  have hi10 : ∀ w ∈ wsX100, w ∈ wsX10_clearText := fun w h => List.mem_cons_of_mem _ (List.mem_append_left _ (List.mem_append_right _ h))
  have hl := lv_entry ([.ref (ad 224)]) (n := 2) (Nat.le_of_ble_eq_true rfl)
  have hef := lg_entry_eq m ([.ref (ad 224)]) 2
  rw [← hav] at hef
  rw [hef]
  clear hef
  generalize (lg_sl ([.ref (ad 224)]) ++ List.replicate (2 - (lg_sl ([.ref (ad 224)])).length) Slot.unset).toArray = ls at hl ⊢
  have hl : lv_has ls 2 [(0, .ref (ad 224))] := hl
  clear hP0
  unfold f_X10_clearText at hr
  refine lv_aload_n hx hb dX10_clearText_0 rfl (lv_at hl 0 rfl) ?_
  refine g10_5 hx hb hts hi10 hown hK hW (k := 224) rfl (hts _ (wm 1 rfl)) dX10_clearText_1 ?_
  refine g9_1 hx hb hts hi9 hown hK hW (k := 230) rfl (hts _ (wm 2 rfl)) dX10_clearText_4 ?_
  obtain ⟨x1_1, ex1_1, hr⟩ := lt1_e hr
  rw [← ex1_1]
  refine lv_istore_n (lv' := [(1, .int x1_1), (0, .ref (ad 224))]) hx hb dX10_clearText_7 rfl hl (by decide) rfl (fun ls hl => ?_)
  refine lv_aload_n hx hb dX10_clearText_8 rfl (lv_at hl 1 rfl) ?_
  refine g10_5 hx hb hts hi10 hown hK hW (k := 224) rfl (hts _ (wm 1 rfl)) dX10_clearText_9 ?_
  refine lv_iconst (v := (0 : Int32)) hx hb dX10_clearText_12 (by decide) ?_
  obtain ⟨M_2, eM_2, hr⟩ := lt1_e hr
  refine p9_1 hx hb hts hi9 hown hK hW (k := 230) rfl (hts _ (wm 2 rfl)) dX10_clearText_13 (fun H locs hW => ?_)
  rw [← eM_2] at hW
  refine lv_iload_n hx hb dX10_clearText_16 rfl (lv_at hl 0 rfl) ?_
  obtain ⟨e1, e2⟩ := Prod.mk.inj (Option.some.inj hr)
  rw [← e1, ← e2]
  exact xiret hx hb hr0 hlocks hW adR_rf dX10_clearText_17

set_option maxHeartbeats 4000000 in
set_option maxRecDepth 100000 in
theorem c_X10_faultPosition (l : Launch) (D : va_G) (cA : Nat → ClassId) (ad : Nat → Nat) (M : Mm) {r : Int32} {M' : Mm} (hr : f_X10_faultPosition M = some (r, M')) : Met l yX10_faultPosition wsX10_faultPosition ({ frames := 3, cells := 0, slots := 0, locals := 67 }) (PcX D true cA ad M [.ref (ad 224)]) (QiX false D true cA ad r M') 0 0 (AX true ad) := by
  refine Met.ofW (cc := cX10_faultPosition) (maxL := 2) (ret := (some .int)) (by decide) rfl ?_
  intro p e s m args below meth c s₁ B hml hv
  obtain ⟨hav, hP0, hK⟩ := hv
  have hx := B.exec
  have hb := B.bytes
  have hr0 := B.returns
  have hts := atoms_spec (ws := wsX10_faultPosition) B.pre
  have hown : s.vm.findClass RX10 = some m.cls := findClass_of_methodNamed B.named
  have hlocks := B.notSynchronized
  have hW := xstart hP0
  have hi0 : ∀ w ∈ wsX00, w ∈ wsX10_faultPosition := fun w h => List.mem_cons_of_mem _ (List.mem_append_left _ (List.mem_append_right _ h))
  have hi10 : ∀ w ∈ wsX100, w ∈ wsX10_faultPosition := fun w h => List.mem_cons_of_mem _ (List.mem_append_left _ (List.mem_append_left _ (List.mem_append_right _ h)))
  have hl := lv_entry ([.ref (ad 224)]) (n := 2) (Nat.le_of_ble_eq_true rfl)
  have hef := lg_entry_eq m ([.ref (ad 224)]) 2
  rw [← hav] at hef
  rw [hef]
  clear hef
  generalize (lg_sl ([.ref (ad 224)]) ++ List.replicate (2 - (lg_sl ([.ref (ad 224)])).length) Slot.unset).toArray = ls at hl ⊢
  have hl : lv_has ls 2 [(0, .ref (ad 224))] := hl
  clear hP0
  unfold f_X10_faultPosition at hr
  refine lv_aload_n hx hb dX10_faultPosition_0 rfl (lv_at hl 0 rfl) ?_
  refine g10_4 hx hb hts hi10 hown hK hW (k := 224) rfl (hts _ (wm 1 rfl)) dX10_faultPosition_1 ?_
  obtain ⟨M_1, hc4, hr⟩ := ob1_e hr
  refine xk_v (va_runV (As := []) (rest := []) ⟨hx, hb, hml, hown, hts⟩ (c_X0_begin l D cA ad M hc4) (cwV 0 hts gX10_faultPosition_X0_begin rfl rfl rfl (by decide +kernel) ⟨Nat.le_of_ble_eq_true rfl, Nat.le_of_ble_eq_true rfl⟩) (xpreV hK hW (k := 229) rfl (by decide) rfl) rfl rfl hl.1 rfl (lv_room (Nat.le_of_ble_eq_true rfl)) dX10_faultPosition_4 ⟨Nat.le_of_ble_eq_true rfl, Nat.le_of_ble_eq_true rfl⟩) hW (fun H locs hW => ?_)
  refine lv_iconst (v := (0 : Int32)) hx hb dX10_faultPosition_7 (by decide) ?_
  refine lv_istore_n (lv' := [(1, .int (0 : Int32)), (0, .ref (ad 224))]) hx hb dX10_faultPosition_8 rfl hl (by decide) rfl (fun ls hl => ?_)
  have hL9_1 : ∀ (n : Nat) (x1_2 : Int32) (M_3 : Mm) (H : Heap) (locs : List Loc) (ls : Array Slot) (M_4 : Mm), Xw D true cA ad M_3 (AX true ad) s.heap H locs → lv_has ls 2 [(0, .ref (ad 224)), (1, .int x1_2)] → f_X10_faultPosition_L9 n x1_2 M_3 = some M_4 → (∀ (H : Heap) (locs : List Loc) (ls : Array Slot), Xw D true cA ad M_4 (AX true ad) s.heap H locs → lv_has ls 2 [(0, .ref (ad 224))] → W p l e (headSpec wsX10_faultPosition { frames := 3, cells := 0, slots := 0, locals := 67 }).room s m args below meth c H locs 0 0 (MQ below (QiX false D true cA ad r M') args s 0 0 (AX true ad)) (F0 m 38 ls [])) → W p l e (headSpec wsX10_faultPosition { frames := 3, cells := 0, slots := 0, locals := 67 }).room s m args below meth c H locs 0 0 (MQ below (QiX false D true cA ad r M') args s 0 0 (AX true ad)) (F0 m 9 ls []) := by
    intro n
    induction n with
    | zero =>
      intro x1_2 M_3 H locs ls M_4 hW hl hr hk
      exact absurd hr (by simp [f_X10_faultPosition_L9])
    | succ n ih =>
      intro x1_2 M_3 H locs ls M_4 hW hl hr hk
      rw [f_X10_faultPosition_L9] at hr
      refine lv_iload_n hx hb dX10_faultPosition_9 rfl (lv_at hl 1 rfl) ?_
      refine lv_bipush (v := (100 : Int32)) hx hb dX10_faultPosition_10 (by decide) ?_
      refine lv_icmp_ge (tgt := 38) hx hb dX10_faultPosition_12 (by decide) (fun c1 => ?_) (fun c1 => ?_)
      · have hr := br_p c1 hr
        have e1 := Option.some.inj hr
        subst e1
        exact hk _ _ _ hW (lv_sub hl [0] rfl)
      · have hr := br_n c1 hr
        refine lv_aload_n hx hb dX10_faultPosition_15 rfl (lv_at hl 0 rfl) ?_
        refine g10_4 hx hb hts hi10 hown hK hW (k := 224) rfl (hts _ (wm 1 rfl)) dX10_faultPosition_16 ?_
        obtain ⟨r_5, hc19, hr⟩ := ob1_e hr
        refine xk_i (va_runV (As := []) (rest := []) ⟨hx, hb, hml, hown, hts⟩ (c_X0_hasMore l D cA ad M_3 hc19) (cwV 0 hts gX10_faultPosition_X0_hasMore rfl rfl rfl (by decide +kernel) ⟨Nat.le_of_ble_eq_true rfl, Nat.le_of_ble_eq_true rfl⟩) (xpreV hK hW (k := 229) rfl (by decide) rfl) rfl rfl hl.1 rfl (lv_room (Nat.le_of_ble_eq_true rfl)) dX10_faultPosition_19 ⟨Nat.le_of_ble_eq_true rfl, Nat.le_of_ble_eq_true rfl⟩) hW (fun H locs hW => ?_)
        refine lv_if_eq (tgt := 38) hx hb dX10_faultPosition_22 (by decide) (fun c1 => ?_) (fun c1 => ?_)
        · have hr := br_p c1 hr
          have e1 := Option.some.inj hr
          subst e1
          exact hk _ _ _ hW (lv_sub hl [0] rfl)
        · have hr := br_n c1 hr
          refine lv_aload_n hx hb dX10_faultPosition_25 rfl (lv_at hl 0 rfl) ?_
          refine g10_4 hx hb hts hi10 hown hK hW (k := 224) rfl (hts _ (wm 1 rfl)) dX10_faultPosition_26 ?_
          obtain ⟨M_6, hc29, hr⟩ := ob1_e hr
          refine xk_v (va_runV (As := []) (rest := []) ⟨hx, hb, hml, hown, hts⟩ (c_X0_readAct l D cA ad M_3 hc29) (cwV 0 hts gX10_faultPosition_X0_readAct rfl rfl rfl (by decide +kernel) ⟨Nat.le_of_ble_eq_true rfl, Nat.le_of_ble_eq_true rfl⟩) (xpreV hK hW (k := 229) rfl (by decide) rfl) rfl rfl hl.1 rfl (lv_room (Nat.le_of_ble_eq_true rfl)) dX10_faultPosition_29 ⟨Nat.le_of_ble_eq_true rfl, Nat.le_of_ble_eq_true rfl⟩) hW (fun H locs hW => ?_)
          obtain ⟨x1_7, ex1_7, hr⟩ := lt1_e hr
          refine lv_iinc (v := x1_7) (lv' := [(1, .int x1_7), (0, .ref (ad 224))]) hx hb dX10_faultPosition_32 hl (k := 1) rfl (by rw [ex1_7]; rfl) (by decide) rfl (fun ls hl => ?_)
          refine lv_goto (tgt := 9) hx hb dX10_faultPosition_35 (by decide) ?_
          exact ih x1_7 M_6 _ _ _ _ hW (lv_sub hl [1, 0] rfl) hr hk
  obtain ⟨M_4, hr, hr3⟩ := ob1_e hr
  refine hL9_1 1000 (0 : Int32) M_1 _ _ _ M_4 hW (lv_sub hl [1, 0] rfl) hr (fun H locs ls hW hl => ?_)
  clear hr
  have hr := hr3
  refine lv_aload_n hx hb dX10_faultPosition_38 rfl (lv_at hl 0 rfl) ?_
  refine g10_4 hx hb hts hi10 hown hK hW (k := 224) rfl (hts _ (wm 1 rfl)) dX10_faultPosition_39 ?_
  refine g0_2 hx hb hts hi0 hown hK hW (k := 229) rfl (hts _ (wm 2 rfl)) dX10_faultPosition_42 ?_
  refine lv_if_eq (tgt := 58) hx hb dX10_faultPosition_45 (by decide) (fun c1 => ?_) (fun c1 => ?_)
  · have hr := br_p c1 hr
    refine lv_ldc (v := (-2000000005 : Int32)) hx hb hown (hts _ (wm 4 rfl)) dX10_faultPosition_58 ?_
    obtain ⟨e1, e2⟩ := Prod.mk.inj (Option.some.inj hr)
    rw [← e1, ← e2]
    exact xiret hx hb hr0 hlocks hW adR_rf dX10_faultPosition_60
  · have hr := br_n c1 hr
    refine lv_aload_n hx hb dX10_faultPosition_48 rfl (lv_at hl 0 rfl) ?_
    refine g10_4 hx hb hts hi10 hown hK hW (k := 224) rfl (hts _ (wm 1 rfl)) dX10_faultPosition_49 ?_
    refine g0_1 hx hb hts hi0 hown hK hW (k := 229) rfl (hts _ (wm 3 rfl)) dX10_faultPosition_52 ?_
    refine lv_goto (tgt := 60) hx hb dX10_faultPosition_55 (by decide) ?_
    obtain ⟨e1, e2⟩ := Prod.mk.inj (Option.some.inj hr)
    rw [← e1, ← e2]
    exact xiret hx hb hr0 hlocks hW adR_rf dX10_faultPosition_60

set_option maxHeartbeats 4000000 in
set_option maxRecDepth 100000 in
theorem c_X11_exchanges (l : Launch) (D : va_G) (cA : Nat → ClassId) (ad : Nat → Nat) (M : Mm) (x1 : Int32) (x2 : Int32) {M' : Mm} (hr : f_X11_exchanges x1 x2 M = some M') : Met l yX11_exchanges wsX11_exchanges ({ frames := 1, cells := 0, slots := 0, locals := 23 }) (PcX D false cA ad M [.ref (ad 0), .int x1, .int x2]) (QvX false D false cA ad M') 0 0 (AX false ad) := by
  refine Met.ofW (cc := cX11_exchanges) (maxL := 4) (ret := none) (by decide) rfl ?_
  intro p e s m args below meth c s₁ B hml hv
  obtain ⟨rfl, hP0, hK⟩ := hv
  have hx := B.exec
  have hb := B.bytes
  have hr0 := B.returns
  have hts := atoms_spec (ws := wsX11_exchanges) B.pre
  have hown : s.vm.findClass RX11 = some m.cls := findClass_of_methodNamed B.named
  have hlocks := B.notSynchronized
  have hW := xstart hP0
  have hl := lv_entry ([.ref (ad 0), .int x1, .int x2]) (n := 4) (Nat.le_of_ble_eq_true rfl)
  rw [lg_entry_eq]
  generalize (lg_sl ([.ref (ad 0), .int x1, .int x2]) ++ List.replicate (4 - (lg_sl ([.ref (ad 0), .int x1, .int x2])).length) Slot.unset).toArray = ls at hl ⊢
  have hl : lv_has ls 4 [(0, .ref (ad 0)), (1, .int x1), (2, .int x2)] := hl
  clear hP0
  unfold f_X11_exchanges at hr
  refine lv_aload_n hx hb dX11_exchanges_0 rfl (lv_at hl 0 rfl) ?_
  refine lv_iload_n hx hb dX11_exchanges_1 rfl (lv_at hl 1 rfl) ?_
  refine lv_iload_n hx hb dX11_exchanges_2 rfl (lv_at hl 2 rfl) ?_
  obtain ⟨r_1, hc3, hr⟩ := ob1_e hr
  refine xk_i (va_runV (As := [.int x1, .int x2]) (rest := []) ⟨hx, hb, hml, hown, hts⟩ (c_X11_of l D cA ad M x1 x2 hc3) (cwV 2 hts gX11_exchanges_X11_of rfl rfl rfl (by decide +kernel) ⟨Nat.le_of_ble_eq_true rfl, Nat.le_of_ble_eq_true rfl⟩) (xpreV hK hW (k := 0) rfl (by decide) rfl) rfl rfl hl.1 rfl (lv_room (Nat.le_of_ble_eq_true rfl)) dX11_exchanges_3 ⟨Nat.le_of_ble_eq_true rfl, Nat.le_of_ble_eq_true rfl⟩) hW (fun H locs hW => ?_)
  refine lv_istore_n (lv' := [(3, .int r_1), (0, .ref (ad 0)), (1, .int x1), (2, .int x2)]) hx hb dX11_exchanges_6 rfl hl (by decide) rfl (fun ls hl => ?_)
  refine lv_aload_n hx hb dX11_exchanges_7 rfl (lv_at hl 1 rfl) ?_
  refine lv_iload_n hx hb dX11_exchanges_8 rfl (lv_at hl 2 rfl) ?_
  refine lv_iload_n hx hb dX11_exchanges_9 rfl (lv_at hl 3 rfl) ?_
  refine lv_aload_n hx hb dX11_exchanges_10 rfl (lv_at hl 1 rfl) ?_
  refine lv_iload_n hx hb dX11_exchanges_11 rfl (lv_at hl 2 rfl) ?_
  refine lv_iload_n hx hb dX11_exchanges_12 rfl (lv_at hl 3 rfl) ?_
  refine lv_iconst (v := (1 : Int32)) hx hb dX11_exchanges_13 (by decide) ?_
  refine lv_iadd hx hb dX11_exchanges_14 ?_
  obtain ⟨r_2, hc15, hr⟩ := ob1_e hr
  refine xk_i (va_runV (As := [.int x1, .int (x2 + (1 : Int32))]) (rest := [.int x2, .int x1, .ref (ad 0)]) ⟨hx, hb, hml, hown, hts⟩ (c_X11_of l D cA ad M x1 (x2 + (1 : Int32)) hc15) (cwV 2 hts gX11_exchanges_X11_of rfl rfl rfl (by decide +kernel) ⟨Nat.le_of_ble_eq_true rfl, Nat.le_of_ble_eq_true rfl⟩) (xpreV hK hW (k := 0) rfl (by decide) rfl) rfl rfl hl.1 rfl (lv_room (Nat.le_of_ble_eq_true rfl)) dX11_exchanges_15 ⟨Nat.le_of_ble_eq_true rfl, Nat.le_of_ble_eq_true rfl⟩) hW (fun H locs hW => ?_)
  obtain ⟨M_3, hc18, hr⟩ := ob1_e hr
  refine xk_v (va_runV (As := [.int x1, .int x2, .int r_2]) (rest := []) ⟨hx, hb, hml, hown, hts⟩ (c_X11_lay l D cA ad M x1 x2 r_2 hc18) (cwV 3 hts gX11_exchanges_X11_lay rfl rfl rfl (by decide +kernel) ⟨Nat.le_of_ble_eq_true rfl, Nat.le_of_ble_eq_true rfl⟩) (xpreV hK hW (k := 0) rfl (by decide) rfl) rfl rfl hl.1 rfl (lv_room (Nat.le_of_ble_eq_true rfl)) dX11_exchanges_18 ⟨Nat.le_of_ble_eq_true rfl, Nat.le_of_ble_eq_true rfl⟩) hW (fun H locs hW => ?_)
  refine lv_aload_n hx hb dX11_exchanges_21 rfl (lv_at hl 1 rfl) ?_
  refine lv_iload_n hx hb dX11_exchanges_22 rfl (lv_at hl 2 rfl) ?_
  refine lv_iload_n hx hb dX11_exchanges_23 rfl (lv_at hl 3 rfl) ?_
  refine lv_iconst (v := (1 : Int32)) hx hb dX11_exchanges_24 (by decide) ?_
  refine lv_iadd hx hb dX11_exchanges_25 ?_
  refine lv_iload_n hx hb dX11_exchanges_26 rfl (lv_at hl 0 rfl) ?_
  obtain ⟨M_4, hc27, hr⟩ := ob1_e hr
  refine xk_v (va_runV (As := [.int x1, .int (x2 + (1 : Int32)), .int r_1]) (rest := []) ⟨hx, hb, hml, hown, hts⟩ (c_X11_lay l D cA ad M_3 x1 (x2 + (1 : Int32)) r_1 hc27) (cwV 3 hts gX11_exchanges_X11_lay rfl rfl rfl (by decide +kernel) ⟨Nat.le_of_ble_eq_true rfl, Nat.le_of_ble_eq_true rfl⟩) (xpreV hK hW (k := 0) rfl (by decide) rfl) rfl rfl hl.1 rfl (lv_room (Nat.le_of_ble_eq_true rfl)) dX11_exchanges_27 ⟨Nat.le_of_ble_eq_true rfl, Nat.le_of_ble_eq_true rfl⟩) hW (fun H locs hW => ?_)
  rw [← Option.some.inj hr]
  exact xvret hx hb hr0 hlocks hW adR_rf dX11_exchanges_30

set_option maxHeartbeats 4000000 in
set_option maxRecDepth 100000 in
theorem c_X11_swaps (l : Launch) (D : va_G) (cA : Nat → ClassId) (ad : Nat → Nat) (M : Mm) {r : Int32} {M' : Mm} (hr : f_X11_swaps M = some (r, M')) : Met l yX11_swaps wsX11_swaps ({ frames := 2, cells := 0, slots := 0, locals := 46 }) (PcX D false cA ad M [.ref (ad 0)]) (QiX false D false cA ad r M') 0 0 (AX false ad) := by
  refine Met.ofW (cc := cX11_swaps) (maxL := 2) (ret := (some .int)) (by decide) rfl ?_
  intro p e s m args below meth c s₁ B hml hv
  obtain ⟨rfl, hP0, hK⟩ := hv
  have hx := B.exec
  have hb := B.bytes
  have hr0 := B.returns
  have hts := atoms_spec (ws := wsX11_swaps) B.pre
  have hown : s.vm.findClass RX11 = some m.cls := findClass_of_methodNamed B.named
  have hlocks := B.notSynchronized
  have hW := xstart hP0
  have hi11 : ∀ w ∈ wsX110, w ∈ wsX11_swaps := fun w h => List.mem_cons_of_mem _ (List.mem_append_right _ h)
  have hl := lv_entry ([.ref (ad 0)]) (n := 2) (Nat.le_of_ble_eq_true rfl)
  rw [lg_entry_eq]
  generalize (lg_sl ([.ref (ad 0)]) ++ List.replicate (2 - (lg_sl ([.ref (ad 0)])).length) Slot.unset).toArray = ls at hl ⊢
  have hl : lv_has ls 2 [(0, .ref (ad 0))] := hl
  clear hP0
  unfold f_X11_swaps at hr
  refine lv_aload_n hx hb dX11_swaps_0 rfl (lv_at hl 0 rfl) ?_
  refine g11_0 hx hb hts hi11 hown hK hW (k := 0) rfl (hts _ (wm 1 rfl)) dX11_swaps_1 ?_
  refine lv_bipush (v := (83 : Int32)) hx hb dX11_swaps_4 (by decide) ?_
  refine lv_iconst (v := (1 : Int32)) hx hb dX11_swaps_6 (by decide) ?_
  refine lv_aload_n hx hb dX11_swaps_7 rfl (lv_at hl 0 rfl) ?_
  refine g11_0 hx hb hts hi11 hown hK hW (k := 0) rfl (hts _ (wm 1 rfl)) dX11_swaps_8 ?_
  refine lv_bipush (v := (83 : Int32)) hx hb dX11_swaps_11 (by decide) ?_
  refine xiald hx hb hK hW (k := 1) (t := 24) rfl (by decide) (by decide) rfl (n := 159) (by decide) (jx := 83) (by decide) dX11_swaps_13 ?_
  refine lv_isub hx hb dX11_swaps_14 ?_
  obtain ⟨M_1, eM_1, hr⟩ := lt1_e hr
  refine xiast hx hb hK hW (k := 1) (t := 24) rfl (by decide) (by decide) rfl (n := 159) (by decide) (jx := 83) (by decide) dX11_swaps_15 (fun H locs hW => ?_)
  rw [← eM_1] at hW
  refine lv_iconst (v := (0 : Int32)) hx hb dX11_swaps_16 (by decide) ?_
  refine lv_istore_n (lv' := [(1, .int (0 : Int32)), (0, .ref (ad 0))]) hx hb dX11_swaps_17 rfl hl (by decide) rfl (fun ls hl => ?_)
  have hL18_1 : ∀ (n : Nat) (x1_2 : Int32) (M_3 : Mm) (H : Heap) (locs : List Loc) (ls : Array Slot) (M_4 : Mm), Xw D false cA ad M_3 (AX false ad) s.heap H locs → lv_has ls 2 [(0, .ref (ad 0)), (1, .int x1_2)] → f_X11_swaps_L18 n x1_2 M_3 = some M_4 → (∀ (H : Heap) (locs : List Loc) (ls : Array Slot), Xw D false cA ad M_4 (AX false ad) s.heap H locs → lv_has ls 2 [(0, .ref (ad 0))] → W p l e (headSpec wsX11_swaps { frames := 2, cells := 0, slots := 0, locals := 46 }).room s m args below meth c H locs 0 0 (MQ below (QiX false D false cA ad r M') args s 0 0 (AX false ad)) (F0 m 71 ls [])) → W p l e (headSpec wsX11_swaps { frames := 2, cells := 0, slots := 0, locals := 46 }).room s m args below meth c H locs 0 0 (MQ below (QiX false D false cA ad r M') args s 0 0 (AX false ad)) (F0 m 18 ls []) := by
    intro n
    induction n with
    | zero =>
      intro x1_2 M_3 H locs ls M_4 hW hl hr hk
      exact absurd hr (by simp [f_X11_swaps_L18])
    | succ n ih =>
      intro x1_2 M_3 H locs ls M_4 hW hl hr hk
      rw [f_X11_swaps_L18] at hr
      refine lv_iload_n hx hb dX11_swaps_18 rfl (lv_at hl 1 rfl) ?_
      refine lv_aload_n hx hb dX11_swaps_19 rfl (lv_at hl 0 rfl) ?_
      refine g11_0 hx hb hts hi11 hown hK hW (k := 0) rfl (hts _ (wm 1 rfl)) dX11_swaps_20 ?_
      refine lv_bipush (v := (64 : Int32)) hx hb dX11_swaps_23 (by decide) ?_
      refine xiald hx hb hK hW (k := 1) (t := 24) rfl (by decide) (by decide) rfl (n := 159) (by decide) (jx := 64) (by decide) dX11_swaps_25 ?_
      refine lv_icmp_ge (tgt := 71) hx hb dX11_swaps_26 (by decide) (fun c1 => ?_) (fun c1 => ?_)
      · have hr := br_p c1 hr
        have e1 := Option.some.inj hr
        subst e1
        exact hk _ _ _ hW (lv_sub hl [0] rfl)
      · have hr := br_n c1 hr
        refine lv_aload_n hx hb dX11_swaps_29 rfl (lv_at hl 0 rfl) ?_
        refine lv_iload_n hx hb dX11_swaps_30 rfl (lv_at hl 1 rfl) ?_
        refine lv_iconst (v := (5 : Int32)) hx hb dX11_swaps_31 (by decide) ?_
        obtain ⟨r_5, hc32, hr⟩ := ob1_e hr
        refine xk_i (va_runV (As := [.int x1_2, .int (5 : Int32)]) (rest := []) ⟨hx, hb, hml, hown, hts⟩ (c_X11_of l D cA ad M_3 x1_2 (5 : Int32) hc32) (cwV 2 hts gX11_swaps_X11_of rfl rfl rfl (by decide +kernel) ⟨Nat.le_of_ble_eq_true rfl, Nat.le_of_ble_eq_true rfl⟩) (xpreV hK hW (k := 0) rfl (by decide) rfl) rfl rfl hl.1 rfl (lv_room (Nat.le_of_ble_eq_true rfl)) dX11_swaps_32 ⟨Nat.le_of_ble_eq_true rfl, Nat.le_of_ble_eq_true rfl⟩) hW (fun H locs hW => ?_)
        refine lv_ldc (v := (-2000000005 : Int32)) hx hb hown (hts _ (wm 2 rfl)) dX11_swaps_35 ?_
        obtain ⟨M_6, hr, hr3⟩ := ob1_e hr
        have hj46_6 : ∀ (H : Heap) (locs : List Loc) (ls : Array Slot), Xw D false cA ad M_6 (AX false ad) s.heap H locs → lv_has ls 2 [(0, .ref (ad 0)), (1, .int x1_2)] → W p l e (headSpec wsX11_swaps { frames := 2, cells := 0, slots := 0, locals := 46 }).room s m args below meth c H locs 0 0 (MQ below (QiX false D false cA ad r M') args s 0 0 (AX false ad)) (F0 m 46 ls []) := by
          intro H locs ls hW hl
          have hr := hr3
          refine lv_aload_n hx hb dX11_swaps_46 rfl (lv_at hl 0 rfl) ?_
          refine lv_iload_n hx hb dX11_swaps_47 rfl (lv_at hl 1 rfl) ?_
          refine lv_bipush (v := (13 : Int32)) hx hb dX11_swaps_48 (by decide) ?_
          obtain ⟨r_8, hc50, hr⟩ := ob1_e hr
          refine xk_i (va_runV (As := [.int x1_2, .int (13 : Int32)]) (rest := []) ⟨hx, hb, hml, hown, hts⟩ (c_X11_of l D cA ad M_6 x1_2 (13 : Int32) hc50) (cwV 2 hts gX11_swaps_X11_of rfl rfl rfl (by decide +kernel) ⟨Nat.le_of_ble_eq_true rfl, Nat.le_of_ble_eq_true rfl⟩) (xpreV hK hW (k := 0) rfl (by decide) rfl) rfl rfl hl.1 rfl (lv_room (Nat.le_of_ble_eq_true rfl)) dX11_swaps_50 ⟨Nat.le_of_ble_eq_true rfl, Nat.le_of_ble_eq_true rfl⟩) hW (fun H locs hW => ?_)
          refine lv_ldc (v := (-2000000005 : Int32)) hx hb hown (hts _ (wm 2 rfl)) dX11_swaps_53 ?_
          obtain ⟨M_9, hr, hr3⟩ := ob1_e hr
          have hj65_9 : ∀ (H : Heap) (locs : List Loc) (ls : Array Slot), Xw D false cA ad M_9 (AX false ad) s.heap H locs → lv_has ls 2 [(0, .ref (ad 0)), (1, .int x1_2)] → W p l e (headSpec wsX11_swaps { frames := 2, cells := 0, slots := 0, locals := 46 }).room s m args below meth c H locs 0 0 (MQ below (QiX false D false cA ad r M') args s 0 0 (AX false ad)) (F0 m 65 ls []) := by
            intro H locs ls hW hl
            have hr := hr3
            obtain ⟨x1_11, ex1_11, hr⟩ := lt1_e hr
            refine lv_iinc (v := x1_11) (lv' := [(1, .int x1_11), (0, .ref (ad 0))]) hx hb dX11_swaps_65 hl (k := 1) rfl (by rw [ex1_11]; rfl) (by decide) rfl (fun ls hl => ?_)
            refine lv_goto (tgt := 18) hx hb dX11_swaps_68 (by decide) ?_
            exact ih x1_11 M_9 _ _ _ hW (lv_sub hl [1, 0] rfl) _ hr hk
          clear hr3
          refine lv_icmp_eq (tgt := 65) hx hb dX11_swaps_55 (by decide) (fun c1 => ?_) (fun c1 => ?_)
          · have hr := br_p c1 hr
            have e1 := Option.some.inj hr
            subst e1
            exact hj65_9 _ _ _ hW (lv_sub hl [0, 1] rfl)
          · have hr := br_n c1 hr
            refine lv_aload_n hx hb dX11_swaps_58 rfl (lv_at hl 0 rfl) ?_
            refine lv_iload_n hx hb dX11_swaps_59 rfl (lv_at hl 1 rfl) ?_
            refine lv_bipush (v := (13 : Int32)) hx hb dX11_swaps_60 (by decide) ?_
            obtain ⟨M_10, hc62, hr⟩ := ob1_e hr
            refine xk_v (va_runV (As := [.int x1_2, .int (13 : Int32)]) (rest := []) ⟨hx, hb, hml, hown, hts⟩ (c_X11_exchanges l D cA ad M_6 x1_2 (13 : Int32) hc62) (cwV 2 hts gX11_swaps_X11_exchanges rfl rfl rfl (by decide +kernel) ⟨Nat.le_of_ble_eq_true rfl, Nat.le_of_ble_eq_true rfl⟩) (xpreV hK hW (k := 0) rfl (by decide) rfl) rfl rfl hl.1 rfl (lv_room (Nat.le_of_ble_eq_true rfl)) dX11_swaps_62 ⟨Nat.le_of_ble_eq_true rfl, Nat.le_of_ble_eq_true rfl⟩) hW (fun H locs hW => ?_)
            have e1 := Option.some.inj hr
            subst e1
            exact hj65_9 _ _ _ hW (lv_sub hl [0, 1] rfl)
        clear hr3
        refine lv_icmp_eq (tgt := 46) hx hb dX11_swaps_37 (by decide) (fun c1 => ?_) (fun c1 => ?_)
        · have hr := br_p c1 hr
          have e1 := Option.some.inj hr
          subst e1
          exact hj46_6 _ _ _ hW (lv_sub hl [0, 1] rfl)
        · have hr := br_n c1 hr
          refine lv_aload_n hx hb dX11_swaps_40 rfl (lv_at hl 0 rfl) ?_
          refine lv_iload_n hx hb dX11_swaps_41 rfl (lv_at hl 1 rfl) ?_
          refine lv_iconst (v := (5 : Int32)) hx hb dX11_swaps_42 (by decide) ?_
          obtain ⟨M_7, hc43, hr⟩ := ob1_e hr
          refine xk_v (va_runV (As := [.int x1_2, .int (5 : Int32)]) (rest := []) ⟨hx, hb, hml, hown, hts⟩ (c_X11_exchanges l D cA ad M_3 x1_2 (5 : Int32) hc43) (cwV 2 hts gX11_swaps_X11_exchanges rfl rfl rfl (by decide +kernel) ⟨Nat.le_of_ble_eq_true rfl, Nat.le_of_ble_eq_true rfl⟩) (xpreV hK hW (k := 0) rfl (by decide) rfl) rfl rfl hl.1 rfl (lv_room (Nat.le_of_ble_eq_true rfl)) dX11_swaps_43 ⟨Nat.le_of_ble_eq_true rfl, Nat.le_of_ble_eq_true rfl⟩) hW (fun H locs hW => ?_)
          have e1 := Option.some.inj hr
          subst e1
          exact hj46_6 _ _ _ hW (lv_sub hl [0, 1] rfl)
  obtain ⟨M_4, hr, hr3⟩ := ob1_e hr
  refine hL18_1 1000 (0 : Int32) M_1 _ _ _ M_4 hW (lv_sub hl [1, 0] rfl) hr (fun H locs ls hW hl => ?_)
  clear hr
  have hr := hr3
  refine lv_aload_n hx hb dX11_swaps_71 rfl (lv_at hl 0 rfl) ?_
  refine g11_0 hx hb hts hi11 hown hK hW (k := 0) rfl (hts _ (wm 1 rfl)) dX11_swaps_72 ?_
  refine lv_bipush (v := (83 : Int32)) hx hb dX11_swaps_75 (by decide) ?_
  refine xiald hx hb hK hW (k := 1) (t := 24) rfl (by decide) (by decide) rfl (n := 159) (by decide) (jx := 83) (by decide) dX11_swaps_77 ?_
  obtain ⟨e1, e2⟩ := Prod.mk.inj (Option.some.inj hr)
  rw [← e1, ← e2]
  exact xiret hx hb hr0 hlocks hW adR_rf dX11_swaps_78

set_option maxHeartbeats 4000000 in
set_option maxRecDepth 100000 in
theorem c_X11_swap (l : Launch) (D : va_G) (cA : Nat → ClassId) (ad : Nat → Nat) (M : Mm) {r : Int32} {M' : Mm} (hr : f_X11_swap M = some (r, M')) : Met l yX11_swap wsX11_swap ({ frames := 3, cells := 0, slots := 0, locals := 67 }) (PcX D false cA ad M [.ref (ad 0)]) (QiX false D false cA ad r M') 0 0 (AX false ad) := by
  refine Met.ofW (cc := cX11_swap) (maxL := 1) (ret := (some .int)) (by decide) rfl ?_
  intro p e s m args below meth c s₁ B hml hv
  obtain ⟨rfl, hP0, hK⟩ := hv
  have hx := B.exec
  have hb := B.bytes
  have hr0 := B.returns
  have hts := atoms_spec (ws := wsX11_swap) B.pre
  have hown : s.vm.findClass RX11 = some m.cls := findClass_of_methodNamed B.named
  have hlocks := B.notSynchronized
  have hW := xstart hP0
  have hl := lv_entry ([.ref (ad 0)]) (n := 1) (Nat.le_of_ble_eq_true rfl)
  rw [lg_entry_eq]
  generalize (lg_sl ([.ref (ad 0)]) ++ List.replicate (1 - (lg_sl ([.ref (ad 0)])).length) Slot.unset).toArray = ls at hl ⊢
  have hl : lv_has ls 1 [(0, .ref (ad 0))] := hl
  clear hP0
  unfold f_X11_swap at hr
  refine lv_aload_n hx hb dX11_swap_0 rfl (lv_at hl 0 rfl) ?_
  obtain ⟨M_1, hc1, hr⟩ := ob1_e hr
  refine xk_v (va_runV (As := []) (rest := []) ⟨hx, hb, hml, hown, hts⟩ (c_X11_records l D cA ad M hc1) (cwV 0 hts gX11_swap_X11_records rfl rfl rfl (by decide +kernel) ⟨Nat.le_of_ble_eq_true rfl, Nat.le_of_ble_eq_true rfl⟩) (xpreV hK hW (k := 0) rfl (by decide) rfl) rfl rfl hl.1 rfl (lv_room (Nat.le_of_ble_eq_true rfl)) dX11_swap_1 ⟨Nat.le_of_ble_eq_true rfl, Nat.le_of_ble_eq_true rfl⟩) hW (fun H locs hW => ?_)
  refine lv_aload_n hx hb dX11_swap_4 rfl (lv_at hl 0 rfl) ?_
  obtain ⟨r_3, M_2, hc5, hr⟩ := ob2_e hr
  refine xk_i (va_runV (As := []) (rest := []) ⟨hx, hb, hml, hown, hts⟩ (c_X11_swaps l D cA ad M_1 hc5) (cwV 0 hts gX11_swap_X11_swaps rfl rfl rfl (by decide +kernel) ⟨Nat.le_of_ble_eq_true rfl, Nat.le_of_ble_eq_true rfl⟩) (xpreV hK hW (k := 0) rfl (by decide) rfl) rfl rfl hl.1 rfl (lv_room (Nat.le_of_ble_eq_true rfl)) dX11_swap_5 ⟨Nat.le_of_ble_eq_true rfl, Nat.le_of_ble_eq_true rfl⟩) hW (fun H locs hW => ?_)
  obtain ⟨e1, e2⟩ := Prod.mk.inj (Option.some.inj hr)
  rw [← e1, ← e2]
  exact xiret hx hb hr0 hlocks hW adR_rf dX11_swap_8

set_option maxHeartbeats 4000000 in
set_option maxRecDepth 100000 in
theorem c_X11_forget (l : Launch) (D : va_G) (cA : Nat → ClassId) (ad : Nat → Nat) (M : Mm) (x1 : Int32) {r : Int32} {M' : Mm} (hr : f_X11_forget x1 M = some (r, M')) : Met l yX11_forget wsX11_forget ({ frames := 2, cells := 0, slots := 0, locals := 43 }) (PcX D false cA ad M [.ref (ad 0), .int x1]) (QiX false D false cA ad r M') 0 0 (AX false ad) := by
  refine Met.ofW (cc := cX11_forget) (maxL := 3) (ret := (some .int)) (by decide) rfl ?_
  intro p e s m args below meth c s₁ B hml hv
  obtain ⟨rfl, hP0, hK⟩ := hv
  have hx := B.exec
  have hb := B.bytes
  have hr0 := B.returns
  have hts := atoms_spec (ws := wsX11_forget) B.pre
  have hown : s.vm.findClass RX11 = some m.cls := findClass_of_methodNamed B.named
  have hlocks := B.notSynchronized
  have hW := xstart hP0
  have hl := lv_entry ([.ref (ad 0), .int x1]) (n := 3) (Nat.le_of_ble_eq_true rfl)
  rw [lg_entry_eq]
  generalize (lg_sl ([.ref (ad 0), .int x1]) ++ List.replicate (3 - (lg_sl ([.ref (ad 0), .int x1])).length) Slot.unset).toArray = ls at hl ⊢
  have hl : lv_has ls 3 [(0, .ref (ad 0)), (1, .int x1)] := hl
  clear hP0
  unfold f_X11_forget at hr
  refine lv_aload_n hx hb dX11_forget_0 rfl (lv_at hl 0 rfl) ?_
  refine lv_iload_n hx hb dX11_forget_1 rfl (lv_at hl 1 rfl) ?_
  obtain ⟨r_1, hc2, hr⟩ := ob1_e hr
  refine xk_i (va_runV (As := [.int x1]) (rest := []) ⟨hx, hb, hml, hown, hts⟩ (c_X11_isPath l D cA ad M x1 hc2) (cwV 1 hts gX11_forget_X11_isPath rfl rfl rfl (by decide +kernel) ⟨Nat.le_of_ble_eq_true rfl, Nat.le_of_ble_eq_true rfl⟩) (xpreV hK hW (k := 0) rfl (by decide) rfl) rfl rfl hl.1 rfl (lv_room (Nat.le_of_ble_eq_true rfl)) dX11_forget_2 ⟨Nat.le_of_ble_eq_true rfl, Nat.le_of_ble_eq_true rfl⟩) hW (fun H locs hW => ?_)
  refine lv_if_ne (tgt := 11) hx hb dX11_forget_5 (by decide) (fun c1 => ?_) (fun c1 => ?_)
  · have hr := br_n c1 hr
    refine lv_aload_n hx hb dX11_forget_11 rfl (lv_at hl 0 rfl) ?_
    obtain ⟨M_2, hc12, hr⟩ := ob1_e hr
    refine xk_v (va_runV (As := []) (rest := []) ⟨hx, hb, hml, hown, hts⟩ (c_X11_records l D cA ad M hc12) (cwV 0 hts gX11_forget_X11_records rfl rfl rfl (by decide +kernel) ⟨Nat.le_of_ble_eq_true rfl, Nat.le_of_ble_eq_true rfl⟩) (xpreV hK hW (k := 0) rfl (by decide) rfl) rfl rfl hl.1 rfl (lv_room (Nat.le_of_ble_eq_true rfl)) dX11_forget_12 ⟨Nat.le_of_ble_eq_true rfl, Nat.le_of_ble_eq_true rfl⟩) hW (fun H locs hW => ?_)
    refine lv_aload_n hx hb dX11_forget_15 rfl (lv_at hl 0 rfl) ?_
    refine lv_iload_n hx hb dX11_forget_16 rfl (lv_at hl 1 rfl) ?_
    refine lv_iconst (v := (5 : Int32)) hx hb dX11_forget_17 (by decide) ?_
    obtain ⟨r_3, hc18, hr⟩ := ob1_e hr
    refine xk_i (va_runV (As := [.int x1, .int (5 : Int32)]) (rest := []) ⟨hx, hb, hml, hown, hts⟩ (c_X11_of l D cA ad M_2 x1 (5 : Int32) hc18) (cwV 2 hts gX11_forget_X11_of rfl rfl rfl (by decide +kernel) ⟨Nat.le_of_ble_eq_true rfl, Nat.le_of_ble_eq_true rfl⟩) (xpreV hK hW (k := 0) rfl (by decide) rfl) rfl rfl hl.1 rfl (lv_room (Nat.le_of_ble_eq_true rfl)) dX11_forget_18 ⟨Nat.le_of_ble_eq_true rfl, Nat.le_of_ble_eq_true rfl⟩) hW (fun H locs hW => ?_)
    refine lv_ldc (v := (-2000000005 : Int32)) hx hb hown (hts _ (wm 2 rfl)) dX11_forget_21 ?_
    obtain ⟨y_4, hr, hr3⟩ := ob1_e hr
    have hj31_4 : ∀ (H : Heap) (locs : List Loc) (ls : Array Slot), Xw D false cA ad M_2 (AX false ad) s.heap H locs → lv_has ls 3 [(0, .ref (ad 0)), (1, .int x1)] → W p l e (headSpec wsX11_forget { frames := 2, cells := 0, slots := 0, locals := 43 }).room s m args below meth c H locs 0 0 (MQ below (QiX false D false cA ad r M') args s 0 0 (AX false ad)) (F0 m 31 ls [.int y_4]) := by
      intro H locs ls hW hl
      have hr := hr3
      refine lv_istore_n (lv' := [(2, .int y_4), (0, .ref (ad 0)), (1, .int x1)]) hx hb dX11_forget_31 rfl hl (by decide) rfl (fun ls hl => ?_)
      refine lv_aload_n hx hb dX11_forget_32 rfl (lv_at hl 1 rfl) ?_
      refine lv_iload_n hx hb dX11_forget_33 rfl (lv_at hl 2 rfl) ?_
      refine lv_iconst (v := (5 : Int32)) hx hb dX11_forget_34 (by decide) ?_
      refine lv_ldc (v := (-2000000005 : Int32)) hx hb hown (hts _ (wm 2 rfl)) dX11_forget_35 ?_
      obtain ⟨M_5, hc37, hr⟩ := ob1_e hr
      refine xk_v (va_runV (As := [.int x1, .int (5 : Int32), .int (-2000000005 : Int32)]) (rest := []) ⟨hx, hb, hml, hown, hts⟩ (c_X11_lay l D cA ad M_2 x1 (5 : Int32) (-2000000005 : Int32) hc37) (cwV 3 hts gX11_forget_X11_lay rfl rfl rfl (by decide +kernel) ⟨Nat.le_of_ble_eq_true rfl, Nat.le_of_ble_eq_true rfl⟩) (xpreV hK hW (k := 0) rfl (by decide) rfl) rfl rfl hl.1 rfl (lv_room (Nat.le_of_ble_eq_true rfl)) dX11_forget_37 ⟨Nat.le_of_ble_eq_true rfl, Nat.le_of_ble_eq_true rfl⟩) hW (fun H locs hW => ?_)
      refine lv_aload_n hx hb dX11_forget_40 rfl (lv_at hl 1 rfl) ?_
      refine lv_iload_n hx hb dX11_forget_41 rfl (lv_at hl 2 rfl) ?_
      refine lv_bipush (v := (6 : Int32)) hx hb dX11_forget_42 (by decide) ?_
      refine lv_ldc (v := (-2000000005 : Int32)) hx hb hown (hts _ (wm 2 rfl)) dX11_forget_44 ?_
      obtain ⟨M_6, hc46, hr⟩ := ob1_e hr
      refine xk_v (va_runV (As := [.int x1, .int (6 : Int32), .int (-2000000005 : Int32)]) (rest := []) ⟨hx, hb, hml, hown, hts⟩ (c_X11_lay l D cA ad M_5 x1 (6 : Int32) (-2000000005 : Int32) hc46) (cwV 3 hts gX11_forget_X11_lay rfl rfl rfl (by decide +kernel) ⟨Nat.le_of_ble_eq_true rfl, Nat.le_of_ble_eq_true rfl⟩) (xpreV hK hW (k := 0) rfl (by decide) rfl) rfl rfl hl.1 rfl (lv_room (Nat.le_of_ble_eq_true rfl)) dX11_forget_46 ⟨Nat.le_of_ble_eq_true rfl, Nat.le_of_ble_eq_true rfl⟩) hW (fun H locs hW => ?_)
      refine lv_aload_n hx hb dX11_forget_49 rfl (lv_at hl 1 rfl) ?_
      refine lv_iload_n hx hb dX11_forget_50 rfl (lv_at hl 2 rfl) ?_
      refine lv_bipush (v := (7 : Int32)) hx hb dX11_forget_51 (by decide) ?_
      refine lv_ldc (v := (-2000000005 : Int32)) hx hb hown (hts _ (wm 2 rfl)) dX11_forget_53 ?_
      obtain ⟨M_7, hc55, hr⟩ := ob1_e hr
      refine xk_v (va_runV (As := [.int x1, .int (7 : Int32), .int (-2000000005 : Int32)]) (rest := []) ⟨hx, hb, hml, hown, hts⟩ (c_X11_lay l D cA ad M_6 x1 (7 : Int32) (-2000000005 : Int32) hc55) (cwV 3 hts gX11_forget_X11_lay rfl rfl rfl (by decide +kernel) ⟨Nat.le_of_ble_eq_true rfl, Nat.le_of_ble_eq_true rfl⟩) (xpreV hK hW (k := 0) rfl (by decide) rfl) rfl rfl hl.1 rfl (lv_room (Nat.le_of_ble_eq_true rfl)) dX11_forget_55 ⟨Nat.le_of_ble_eq_true rfl, Nat.le_of_ble_eq_true rfl⟩) hW (fun H locs hW => ?_)
      refine lv_iload_n hx hb dX11_forget_58 rfl (lv_at hl 0 rfl) ?_
      obtain ⟨e1, e2⟩ := Prod.mk.inj (Option.some.inj hr)
      rw [← e1, ← e2]
      exact xiret hx hb hr0 hlocks hW adR_rf dX11_forget_59
    clear hr3
    refine lv_icmp_ne (tgt := 30) hx hb dX11_forget_23 (by decide) (fun c1 => ?_) (fun c1 => ?_)
    · have hr := br_n c1 hr
      refine lv_iconst (v := (1 : Int32)) hx hb dX11_forget_30 (by decide) ?_
      have e1 := Option.some.inj hr
      subst e1
      exact hj31_4 _ _ _ hW (lv_sub hl [0, 1] rfl)
    · have hr := br_p c1 hr
      refine lv_iconst (v := (0 : Int32)) hx hb dX11_forget_26 (by decide) ?_
      refine lv_goto (tgt := 31) hx hb dX11_forget_27 (by decide) ?_
      have e1 := Option.some.inj hr
      subst e1
      exact hj31_4 _ _ _ hW (lv_sub hl [0, 1] rfl)
  · have hr := br_p c1 hr
    refine lv_ldc (v := (-2000000001 : Int32)) hx hb hown (hts _ (wm 1 rfl)) dX11_forget_8 ?_
    obtain ⟨e1, e2⟩ := Prod.mk.inj (Option.some.inj hr)
    rw [← e1, ← e2]
    exact xiret hx hb hr0 hlocks hW adR_rf dX11_forget_10

set_option maxHeartbeats 4000000 in
set_option maxRecDepth 100000 in
theorem c_X11_append (l : Launch) (D : va_G) (cA : Nat → ClassId) (ad : Nat → Nat) (M : Mm) (x1 : Int32) {r : Int32} {M' : Mm} (hr : f_X11_append x1 M = some (r, M')) : Met l yX11_append wsX11_append ({ frames := 1, cells := 0, slots := 0, locals := 22 }) (PcX D false cA ad M [.ref (ad 0), .int x1]) (QiX false D false cA ad r M') 0 0 (AX false ad) := by
  refine Met.ofW (cc := cX11_append) (maxL := 2) (ret := (some .int)) (by decide) rfl ?_
  intro p e s m args below meth c s₁ B hml hv
  obtain ⟨rfl, hP0, hK⟩ := hv
  have hx := B.exec
  have hb := B.bytes
  have hr0 := B.returns
  have hts := atoms_spec (ws := wsX11_append) B.pre
  have hown : s.vm.findClass RX11 = some m.cls := findClass_of_methodNamed B.named
  have hlocks := B.notSynchronized
  have hW := xstart hP0
  have hi11 : ∀ w ∈ wsX110, w ∈ wsX11_append := fun w h => List.mem_cons_of_mem _ (List.mem_append_right _ h)
  have hl := lv_entry ([.ref (ad 0), .int x1]) (n := 2) (Nat.le_of_ble_eq_true rfl)
  rw [lg_entry_eq]
  generalize (lg_sl ([.ref (ad 0), .int x1]) ++ List.replicate (2 - (lg_sl ([.ref (ad 0), .int x1])).length) Slot.unset).toArray = ls at hl ⊢
  have hl : lv_has ls 2 [(0, .ref (ad 0)), (1, .int x1)] := hl
  clear hP0
  unfold f_X11_append at hr
  refine lv_iload_n hx hb dX11_append_0 rfl (lv_at hl 1 rfl) ?_
  refine lv_bipush (v := (32 : Int32)) hx hb dX11_append_1 (by decide) ?_
  refine lv_bipush (v := (126 : Int32)) hx hb dX11_append_3 (by decide) ?_
  obtain ⟨r_1, hc5, hr⟩ := ob1_e hr
  refine xk_i (va_runS (As := [.int x1, .int (32 : Int32), .int (126 : Int32)]) (rest := []) ⟨hx, hb, hml, hown, hts⟩ (c_X11_in l D cA ad M x1 (32 : Int32) (126 : Int32) hc5) (va_cwS 3 hts gX11_append_X11_in rfl rfl rfl (by decide +kernel) ⟨Nat.le_of_ble_eq_true rfl, Nat.le_of_ble_eq_true rfl⟩) (xpreS hK hW) rfl rfl hl.1 rfl (lv_room (Nat.le_of_ble_eq_true rfl)) dX11_append_5 ⟨Nat.le_of_ble_eq_true rfl, Nat.le_of_ble_eq_true rfl⟩) hW (fun H locs hW => ?_)
  refine lv_if_ne (tgt := 14) hx hb dX11_append_8 (by decide) (fun c1 => ?_) (fun c1 => ?_)
  · have hr := br_n c1 hr
    refine lv_aload_n hx hb dX11_append_14 rfl (lv_at hl 0 rfl) ?_
    refine g11_9 hx hb hts hi11 hown hK hW (k := 0) rfl (hts _ (wm 2 rfl)) dX11_append_15 ?_
    refine lv_bipush (v := (100 : Int32)) hx hb dX11_append_18 (by decide) ?_
    refine lv_icmp_ne (tgt := 26) hx hb dX11_append_20 (by decide) (fun c1 => ?_) (fun c1 => ?_)
    · have hr := br_n c1 hr
      refine lv_aload_n hx hb dX11_append_26 rfl (lv_at hl 0 rfl) ?_
      refine g11_8 hx hb hts hi11 hown hK hW (k := 0) rfl (hts _ (wm 4 rfl)) dX11_append_27 ?_
      refine lv_aload_n hx hb dX11_append_30 rfl (lv_at hl 0 rfl) ?_
      refine g11_9 hx hb hts hi11 hown hK hW (k := 0) rfl (hts _ (wm 2 rfl)) dX11_append_31 ?_
      refine lv_iload_n hx hb dX11_append_34 rfl (lv_at hl 1 rfl) ?_
      obtain ⟨hn35, hr⟩ := chk_e hr
      obtain ⟨M_2, eM_2, hr⟩ := lt1_e hr
      refine xiast hx hb hK hW (k := 8) (t := 23) rfl (by decide) (by decide) rfl (n := 100) hn35 (jx := (ix (gI M 0 9))) rfl dX11_append_35 (fun H locs hW => ?_)
      rw [← eM_2] at hW
      refine lv_aload_n hx hb dX11_append_36 rfl (lv_at hl 0 rfl) ?_
      refine lv_dup hx hb dX11_append_37 rfl ?_
      refine g11_9 hx hb hts hi11 hown hK hW (k := 0) rfl (hts _ (wm 2 rfl)) dX11_append_38 ?_
      refine lv_iconst (v := (1 : Int32)) hx hb dX11_append_41 (by decide) ?_
      refine lv_iadd hx hb dX11_append_42 ?_
      obtain ⟨M_3, eM_3, hr⟩ := lt1_e hr
      refine p11_9 hx hb hts hi11 hown hK hW (k := 0) rfl (hts _ (wm 2 rfl)) dX11_append_43 (fun H locs hW => ?_)
      rw [← eM_3] at hW
      refine lv_aload_n hx hb dX11_append_46 rfl (lv_at hl 0 rfl) ?_
      refine g11_9 hx hb hts hi11 hown hK hW (k := 0) rfl (hts _ (wm 2 rfl)) dX11_append_47 ?_
      obtain ⟨e1, e2⟩ := Prod.mk.inj (Option.some.inj hr)
      rw [← e1, ← e2]
      exact xiret hx hb hr0 hlocks hW adR_rf dX11_append_50
    · have hr := br_p c1 hr
      refine lv_ldc (v := (-2000000004 : Int32)) hx hb hown (hts _ (wm 3 rfl)) dX11_append_23 ?_
      obtain ⟨e1, e2⟩ := Prod.mk.inj (Option.some.inj hr)
      rw [← e1, ← e2]
      exact xiret hx hb hr0 hlocks hW adR_rf dX11_append_25
  · have hr := br_p c1 hr
    refine lv_ldc (v := (-2000000002 : Int32)) hx hb hown (hts _ (wm 1 rfl)) dX11_append_11 ?_
    obtain ⟨e1, e2⟩ := Prod.mk.inj (Option.some.inj hr)
    rw [← e1, ← e2]
    exact xiret hx hb hr0 hlocks hW adR_rf dX11_append_13

set_option maxHeartbeats 4000000 in
set_option maxRecDepth 100000 in
theorem c_X11_clearText (l : Launch) (D : va_G) (cA : Nat → ClassId) (ad : Nat → Nat) (M : Mm) {r : Int32} {M' : Mm} (hr : f_X11_clearText M = some (r, M')) : Met l yX11_clearText wsX11_clearText ({ frames := 0, cells := 0, slots := 0, locals := 0 }) (PcX D false cA ad M [.ref (ad 0)]) (QiX false D false cA ad r M') 0 0 (AX false ad) := by
  refine Met.ofW (cc := cX11_clearText) (maxL := 2) (ret := (some .int)) (by decide) rfl ?_
  intro p e s m args below meth c s₁ B hml hv
  obtain ⟨rfl, hP0, hK⟩ := hv
  have hx := B.exec
  have hb := B.bytes
  have hr0 := B.returns
  have hts := atoms_spec (ws := wsX11_clearText) B.pre
  have hown : s.vm.findClass RX11 = some m.cls := findClass_of_methodNamed B.named
  have hlocks := B.notSynchronized
  have hW := xstart hP0
  have hi11 : ∀ w ∈ wsX110, w ∈ wsX11_clearText := fun w h => List.mem_cons_of_mem _ (List.mem_append_right _ h)
  have hl := lv_entry ([.ref (ad 0)]) (n := 2) (Nat.le_of_ble_eq_true rfl)
  rw [lg_entry_eq]
  generalize (lg_sl ([.ref (ad 0)]) ++ List.replicate (2 - (lg_sl ([.ref (ad 0)])).length) Slot.unset).toArray = ls at hl ⊢
  have hl : lv_has ls 2 [(0, .ref (ad 0))] := hl
  clear hP0
  unfold f_X11_clearText at hr
  refine lv_aload_n hx hb dX11_clearText_0 rfl (lv_at hl 0 rfl) ?_
  refine g11_9 hx hb hts hi11 hown hK hW (k := 0) rfl (hts _ (wm 1 rfl)) dX11_clearText_1 ?_
  obtain ⟨x1_1, ex1_1, hr⟩ := lt1_e hr
  rw [← ex1_1]
  refine lv_istore_n (lv' := [(1, .int x1_1), (0, .ref (ad 0))]) hx hb dX11_clearText_4 rfl hl (by decide) rfl (fun ls hl => ?_)
  refine lv_aload_n hx hb dX11_clearText_5 rfl (lv_at hl 1 rfl) ?_
  refine lv_iconst (v := (0 : Int32)) hx hb dX11_clearText_6 (by decide) ?_
  obtain ⟨M_2, eM_2, hr⟩ := lt1_e hr
  refine p11_9 hx hb hts hi11 hown hK hW (k := 0) rfl (hts _ (wm 1 rfl)) dX11_clearText_7 (fun H locs hW => ?_)
  rw [← eM_2] at hW
  refine lv_iload_n hx hb dX11_clearText_10 rfl (lv_at hl 0 rfl) ?_
  obtain ⟨e1, e2⟩ := Prod.mk.inj (Option.some.inj hr)
  rw [← e1, ← e2]
  exact xiret hx hb hr0 hlocks hW adR_rf dX11_clearText_11

set_option maxHeartbeats 4000000 in
set_option maxRecDepth 100000 in
theorem c_X11_here (l : Launch) (D : va_G) (cA : Nat → ClassId) (ad : Nat → Nat) (M : Mm) {r : Int32} (hr : f_X11_here M = some r) : Met l yX11_here wsX11_here ({ frames := 0, cells := 0, slots := 0, locals := 0 }) (PcX D false cA ad M [.ref (ad 0)]) (QiX false D false cA ad r M) 0 0 (AX false ad) := by
  refine Met.ofW (cc := cX11_here) (maxL := 1) (ret := (some .int)) (by decide) rfl ?_
  intro p e s m args below meth c s₁ B hml hv
  obtain ⟨rfl, hP0, hK⟩ := hv
  have hx := B.exec
  have hb := B.bytes
  have hr0 := B.returns
  have hts := atoms_spec (ws := wsX11_here) B.pre
  have hown : s.vm.findClass RX11 = some m.cls := findClass_of_methodNamed B.named
  have hlocks := B.notSynchronized
  have hW := xstart hP0
  have hi11 : ∀ w ∈ wsX110, w ∈ wsX11_here := fun w h => List.mem_cons_of_mem _ (List.mem_append_right _ h)
  have hl := lv_entry ([.ref (ad 0)]) (n := 1) (Nat.le_of_ble_eq_true rfl)
  rw [lg_entry_eq]
  generalize (lg_sl ([.ref (ad 0)]) ++ List.replicate (1 - (lg_sl ([.ref (ad 0)])).length) Slot.unset).toArray = ls at hl ⊢
  have hl : lv_has ls 1 [(0, .ref (ad 0))] := hl
  clear hP0
  unfold f_X11_here at hr
  refine lv_aload_n hx hb dX11_here_0 rfl (lv_at hl 0 rfl) ?_
  refine g11_21 hx hb hts hi11 hown hK hW (k := 0) rfl (hts _ (wm 1 rfl)) dX11_here_1 ?_
  refine lv_aload_n hx hb dX11_here_4 rfl (lv_at hl 0 rfl) ?_
  refine g11_9 hx hb hts hi11 hown hK hW (k := 0) rfl (hts _ (wm 2 rfl)) dX11_here_5 ?_
  refine lv_icmp_ge (tgt := 23) hx hb dX11_here_8 (by decide) (fun c1 => ?_) (fun c1 => ?_)
  · have hr := br_p c1 hr
    refine lv_iconst (v := (-1 : Int32)) hx hb dX11_here_23 (by decide) ?_
    rw [← Option.some.inj hr]
    exact xiret hx hb hr0 hlocks hW adR_rf dX11_here_24
  · have hr := br_n c1 hr
    refine lv_aload_n hx hb dX11_here_11 rfl (lv_at hl 0 rfl) ?_
    refine g11_8 hx hb hts hi11 hown hK hW (k := 0) rfl (hts _ (wm 3 rfl)) dX11_here_12 ?_
    refine lv_aload_n hx hb dX11_here_15 rfl (lv_at hl 0 rfl) ?_
    refine g11_21 hx hb hts hi11 hown hK hW (k := 0) rfl (hts _ (wm 1 rfl)) dX11_here_16 ?_
    obtain ⟨hn19, hr⟩ := chk_e hr
    refine xiald hx hb hK hW (k := 8) (t := 23) rfl (by decide) (by decide) rfl (n := 100) hn19 (jx := (ix (gI M 0 21))) rfl dX11_here_19 ?_
    refine lv_goto (tgt := 24) hx hb dX11_here_20 (by decide) ?_
    rw [← Option.some.inj hr]
    exact xiret hx hb hr0 hlocks hW adR_rf dX11_here_24

set_option maxHeartbeats 4000000 in
set_option maxRecDepth 100000 in
theorem c_X11_passes (l : Launch) (D : va_G) (cA : Nat → ClassId) (ad : Nat → Nat) (M : Mm) (x1 : Int32) {r : Int32} {M' : Mm} (hr : f_X11_passes x1 M = some (r, M')) : Met l yX11_passes wsX11_passes ({ frames := 1, cells := 0, slots := 0, locals := 20 }) (PcX D false cA ad M [.ref (ad 0), .int x1]) (QiX false D false cA ad r M') 0 0 (AX false ad) := by
  refine Met.ofW (cc := cX11_passes) (maxL := 3) (ret := (some .boolean)) (by decide) rfl ?_
  intro p e s m args below meth c s₁ B hml hv
  obtain ⟨rfl, hP0, hK⟩ := hv
  have hx := B.exec
  have hb := B.bytes
  have hr0 := B.returns
  have hts := atoms_spec (ws := wsX11_passes) B.pre
  have hown : s.vm.findClass RX11 = some m.cls := findClass_of_methodNamed B.named
  have hlocks := B.notSynchronized
  have hW := xstart hP0
  have hi11 : ∀ w ∈ wsX110, w ∈ wsX11_passes := fun w h => List.mem_cons_of_mem _ (List.mem_append_right _ h)
  have hl := lv_entry ([.ref (ad 0), .int x1]) (n := 3) (Nat.le_of_ble_eq_true rfl)
  rw [lg_entry_eq]
  generalize (lg_sl ([.ref (ad 0), .int x1]) ++ List.replicate (3 - (lg_sl ([.ref (ad 0), .int x1])).length) Slot.unset).toArray = ls at hl ⊢
  have hl : lv_has ls 3 [(0, .ref (ad 0)), (1, .int x1)] := hl
  clear hP0
  unfold f_X11_passes at hr
  refine lv_aload_n hx hb dX11_passes_0 rfl (lv_at hl 0 rfl) ?_
  obtain ⟨r_1, hc1, hr⟩ := ob1_e hr
  refine xk_i (va_runV (As := []) (rest := []) ⟨hx, hb, hml, hown, hts⟩ (c_X11_here l D cA ad M hc1) (cwV 0 hts gX11_passes_X11_here rfl rfl rfl (by decide +kernel) ⟨Nat.le_of_ble_eq_true rfl, Nat.le_of_ble_eq_true rfl⟩) (xpreV hK hW (k := 0) rfl (by decide) rfl) rfl rfl hl.1 rfl (lv_room (Nat.le_of_ble_eq_true rfl)) dX11_passes_1 ⟨Nat.le_of_ble_eq_true rfl, Nat.le_of_ble_eq_true rfl⟩) hW (fun H locs hW => ?_)
  refine lv_iload_n hx hb dX11_passes_4 rfl (lv_at hl 1 rfl) ?_
  obtain ⟨y_2, hr, hr3⟩ := ob1_e hr
  have hj13_2 : ∀ (H : Heap) (locs : List Loc) (ls : Array Slot), Xw D false cA ad M (AX false ad) s.heap H locs → lv_has ls 3 [(0, .ref (ad 0))] → W p l e (headSpec wsX11_passes { frames := 1, cells := 0, slots := 0, locals := 20 }).room s m args below meth c H locs 0 0 (MQ below (QiX false D false cA ad r M') args s 0 0 (AX false ad)) (F0 m 13 ls [.int y_2]) := by
    intro H locs ls hW hl
    have hr := hr3
    refine lv_istore_n (lv' := [(2, .int y_2), (0, .ref (ad 0))]) hx hb dX11_passes_13 rfl hl (by decide) rfl (fun ls hl => ?_)
    refine lv_aload_n hx hb dX11_passes_14 rfl (lv_at hl 1 rfl) ?_
    refine lv_dup hx hb dX11_passes_15 rfl ?_
    refine g11_21 hx hb hts hi11 hown hK hW (k := 0) rfl (hts _ (wm 1 rfl)) dX11_passes_16 ?_
    refine lv_iload_n hx hb dX11_passes_19 rfl (lv_at hl 0 rfl) ?_
    obtain ⟨y_3, hr, hr3⟩ := ob1_e hr
    have hj28_3 : ∀ (H : Heap) (locs : List Loc) (ls : Array Slot), Xw D false cA ad M (AX false ad) s.heap H locs → lv_has ls 3 [(2, .int y_2)] → W p l e (headSpec wsX11_passes { frames := 1, cells := 0, slots := 0, locals := 20 }).room s m args below meth c H locs 0 0 (MQ below (QiX false D false cA ad r M') args s 0 0 (AX false ad)) (F0 m 28 ls [.int y_3, .int (gI M 0 21), .ref (ad 0)]) := by
      intro H locs ls hW hl
      have hr := hr3
      refine lv_iadd hx hb dX11_passes_28 ?_
      obtain ⟨M_4, eM_4, hr⟩ := lt1_e hr
      refine p11_21 hx hb hts hi11 hown hK hW (k := 0) rfl (hts _ (wm 1 rfl)) dX11_passes_29 (fun H locs hW => ?_)
      rw [← eM_4] at hW
      refine lv_iload_n hx hb dX11_passes_32 rfl (lv_at hl 0 rfl) ?_
      obtain ⟨hz33, hr⟩ := chk_e hr
      obtain ⟨e1, e2⟩ := Prod.mk.inj (Option.some.inj hr)
      rw [← e1, ← e2]
      exact xzret hx hb hr0 hlocks hW adR_rf hz33 dX11_passes_33
    clear hr3
    refine lv_if_eq (tgt := 27) hx hb dX11_passes_20 (by decide) (fun c1 => ?_) (fun c1 => ?_)
    · have hr := br_p c1 hr
      refine lv_iconst (v := (0 : Int32)) hx hb dX11_passes_27 (by decide) ?_
      have e1 := Option.some.inj hr
      subst e1
      exact hj28_3 _ _ _ hW (lv_sub hl [0] rfl)
    · have hr := br_n c1 hr
      refine lv_iconst (v := (1 : Int32)) hx hb dX11_passes_23 (by decide) ?_
      refine lv_goto (tgt := 28) hx hb dX11_passes_24 (by decide) ?_
      have e1 := Option.some.inj hr
      subst e1
      exact hj28_3 _ _ _ hW (lv_sub hl [0] rfl)
  clear hr3
  refine lv_icmp_ne (tgt := 12) hx hb dX11_passes_5 (by decide) (fun c1 => ?_) (fun c1 => ?_)
  · have hr := br_n c1 hr
    refine lv_iconst (v := (0 : Int32)) hx hb dX11_passes_12 (by decide) ?_
    have e1 := Option.some.inj hr
    subst e1
    exact hj13_2 _ _ _ hW (lv_sub hl [0] rfl)
  · have hr := br_p c1 hr
    refine lv_iconst (v := (1 : Int32)) hx hb dX11_passes_8 (by decide) ?_
    refine lv_goto (tgt := 13) hx hb dX11_passes_9 (by decide) ?_
    have e1 := Option.some.inj hr
    subst e1
    exact hj13_2 _ _ _ hW (lv_sub hl [0] rfl)

set_option maxHeartbeats 4000000 in
set_option maxRecDepth 100000 in
theorem c_X11_readNumber (l : Launch) (D : va_G) (cA : Nat → ClassId) (ad : Nat → Nat) (M : Mm) (x1 : Int32) (x2 : Int32) (x3 : Int32) {r : Int32} {M' : Mm} (hr : f_X11_readNumber x1 x2 x3 M = some (r, M')) : Met l yX11_readNumber wsX11_readNumber ({ frames := 1, cells := 0, slots := 0, locals := 22 }) (PcX D false cA ad M [.ref (ad 0), .int x1, .int x2, .int x3]) (QiX false D false cA ad r M') 0 0 (AX false ad) := by
  refine Met.ofW (cc := cX11_readNumber) (maxL := 6) (ret := (some .boolean)) (by decide) rfl ?_
  intro p e s m args below meth c s₁ B hml hv
  obtain ⟨rfl, hP0, hK⟩ := hv
  have hx := B.exec
  have hb := B.bytes
  have hr0 := B.returns
  have hts := atoms_spec (ws := wsX11_readNumber) B.pre
  have hown : s.vm.findClass RX11 = some m.cls := findClass_of_methodNamed B.named
  have hlocks := B.notSynchronized
  have hW := xstart hP0
  have hi11 : ∀ w ∈ wsX110, w ∈ wsX11_readNumber := fun w h => List.mem_cons_of_mem _ (List.mem_append_right _ h)
  have hl := lv_entry ([.ref (ad 0), .int x1, .int x2, .int x3]) (n := 6) (Nat.le_of_ble_eq_true rfl)
  rw [lg_entry_eq]
  generalize (lg_sl ([.ref (ad 0), .int x1, .int x2, .int x3]) ++ List.replicate (6 - (lg_sl ([.ref (ad 0), .int x1, .int x2, .int x3])).length) Slot.unset).toArray = ls at hl ⊢
  have hl : lv_has ls 6 [(0, .ref (ad 0)), (1, .int x1), (2, .int x2), (3, .int x3)] := hl
  clear hP0
  unfold f_X11_readNumber at hr
  refine lv_aload_n hx hb dX11_readNumber_0 rfl (lv_at hl 0 rfl) ?_
  refine g11_21 hx hb hts hi11 hown hK hW (k := 0) rfl (hts _ (wm 1 rfl)) dX11_readNumber_1 ?_
  obtain ⟨x4_1, ex4_1, hr⟩ := lt1_e hr
  rw [← ex4_1]
  refine lv_istore (lv' := [(4, .int x4_1), (0, .ref (ad 0)), (1, .int x1), (2, .int x2), (3, .int x3)]) hx hb dX11_readNumber_4 hl (by decide) rfl (fun ls hl => ?_)
  refine lv_aload_n hx hb dX11_readNumber_6 rfl (lv_at hl 1 rfl) ?_
  refine g11_23 hx hb hts hi11 hown hK hW (k := 0) rfl (hts _ (wm 2 rfl)) dX11_readNumber_7 ?_
  refine lv_iload_n hx hb dX11_readNumber_10 rfl (lv_at hl 2 rfl) ?_
  refine lv_iconst (v := (0 : Int32)) hx hb dX11_readNumber_11 (by decide) ?_
  obtain ⟨hn12, hr⟩ := chk_e hr
  obtain ⟨M_2, eM_2, hr⟩ := lt1_e hr
  refine xiast hx hb hK hW (k := 15) (t := 20) rfl (by decide) (by decide) rfl (n := 4) hn12 (jx := (ix x1)) rfl dX11_readNumber_12 (fun H locs hW => ?_)
  rw [← eM_2] at hW
  have hL13_1 : ∀ (n : Nat) (M_3 : Mm) (H : Heap) (locs : List Loc) (ls : Array Slot) (M_4 : Mm), Xw D false cA ad M_3 (AX false ad) s.heap H locs → lv_has ls 6 [(4, .int x4_1), (0, .ref (ad 0)), (1, .int x1), (2, .int x2), (3, .int x3)] → f_X11_readNumber_L13 x1 x4_1 n M_3 = some M_4 → (∀ (H : Heap) (locs : List Loc) (ls : Array Slot), Xw D false cA ad M_4 (AX false ad) s.heap H locs → lv_has ls 6 [(4, .int x4_1), (0, .ref (ad 0)), (1, .int x1), (2, .int x2), (3, .int x3)] → W p l e (headSpec wsX11_readNumber { frames := 1, cells := 0, slots := 0, locals := 22 }).room s m args below meth c H locs 0 0 (MQ below (QiX false D false cA ad r M') args s 0 0 (AX false ad)) (F0 m 96 ls [])) → W p l e (headSpec wsX11_readNumber { frames := 1, cells := 0, slots := 0, locals := 22 }).room s m args below meth c H locs 0 0 (MQ below (QiX false D false cA ad r M') args s 0 0 (AX false ad)) (F0 m 13 ls []) := by
    intro n
    induction n with
    | zero =>
      intro M_3 H locs ls M_4 hW hl hr hk
      exact absurd hr (by simp [f_X11_readNumber_L13])
    | succ n ih =>
      intro M_3 H locs ls M_4 hW hl hr hk
      rw [f_X11_readNumber_L13] at hr
      refine lv_aload_n hx hb dX11_readNumber_13 rfl (lv_at hl 1 rfl) ?_
      obtain ⟨r_5, hc14, hr⟩ := ob1_e hr
      refine xk_i (va_runV (As := []) (rest := []) ⟨hx, hb, hml, hown, hts⟩ (c_X11_here l D cA ad M_3 hc14) (cwV 0 hts gX11_readNumber_X11_here rfl rfl rfl (by decide +kernel) ⟨Nat.le_of_ble_eq_true rfl, Nat.le_of_ble_eq_true rfl⟩) (xpreV hK hW (k := 0) rfl (by decide) rfl) rfl rfl hl.1 rfl (lv_room (Nat.le_of_ble_eq_true rfl)) dX11_readNumber_14 ⟨Nat.le_of_ble_eq_true rfl, Nat.le_of_ble_eq_true rfl⟩) hW (fun H locs hW => ?_)
      refine lv_bipush (v := (48 : Int32)) hx hb dX11_readNumber_17 (by decide) ?_
      refine lv_bipush (v := (57 : Int32)) hx hb dX11_readNumber_19 (by decide) ?_
      obtain ⟨r_6, hc21, hr⟩ := ob1_e hr
      refine xk_i (va_runS (As := [.int r_5, .int (48 : Int32), .int (57 : Int32)]) (rest := []) ⟨hx, hb, hml, hown, hts⟩ (c_X11_in l D cA ad M_3 r_5 (48 : Int32) (57 : Int32) hc21) (va_cwS 3 hts gX11_readNumber_X11_in rfl rfl rfl (by decide +kernel) ⟨Nat.le_of_ble_eq_true rfl, Nat.le_of_ble_eq_true rfl⟩) (xpreS hK hW) rfl rfl hl.1 rfl (lv_room (Nat.le_of_ble_eq_true rfl)) dX11_readNumber_21 ⟨Nat.le_of_ble_eq_true rfl, Nat.le_of_ble_eq_true rfl⟩) hW (fun H locs hW => ?_)
      refine lv_if_eq (tgt := 96) hx hb dX11_readNumber_24 (by decide) (fun c1 => ?_) (fun c1 => ?_)
      · have hr := br_p c1 hr
        have e1 := Option.some.inj hr
        subst e1
        exact hk _ _ _ hW (lv_sub hl [0, 1, 2, 3, 4] rfl)
      · have hr := br_n c1 hr
        refine lv_aload_n hx hb dX11_readNumber_27 rfl (lv_at hl 1 rfl) ?_
        refine g11_21 hx hb hts hi11 hown hK hW (k := 0) rfl (hts _ (wm 1 rfl)) dX11_readNumber_28 ?_
        refine lv_iload hx hb dX11_readNumber_31 (lv_at hl 0 rfl) ?_
        refine lv_bipush (v := (7 : Int32)) hx hb dX11_readNumber_33 (by decide) ?_
        refine lv_iadd hx hb dX11_readNumber_35 ?_
        refine lv_icmp_ge (tgt := 96) hx hb dX11_readNumber_36 (by decide) (fun c1 => ?_) (fun c1 => ?_)
        · have hr := br_p c1 hr
          have e1 := Option.some.inj hr
          subst e1
          exact hk _ _ _ hW (lv_sub hl [0, 1, 2, 3, 4] rfl)
        · have hr := br_n c1 hr
          refine lv_aload_n hx hb dX11_readNumber_39 rfl (lv_at hl 1 rfl) ?_
          refine g11_21 hx hb hts hi11 hown hK hW (k := 0) rfl (hts _ (wm 1 rfl)) dX11_readNumber_40 ?_
          refine lv_iload hx hb dX11_readNumber_43 (lv_at hl 0 rfl) ?_
          refine lv_icmp_eq (tgt := 60) hx hb dX11_readNumber_45 (by decide) (fun c1 => ?_) (fun c1 => ?_)
          · have hr := br_p c1 hr
            refine lv_aload_n hx hb dX11_readNumber_60 rfl (lv_at hl 1 rfl) ?_
            refine g11_23 hx hb hts hi11 hown hK hW (k := 0) rfl (hts _ (wm 2 rfl)) dX11_readNumber_61 ?_
            refine lv_iload_n hx hb dX11_readNumber_64 rfl (lv_at hl 2 rfl) ?_
            refine lv_bipush (v := (10 : Int32)) hx hb dX11_readNumber_65 (by decide) ?_
            refine lv_aload_n hx hb dX11_readNumber_67 rfl (lv_at hl 1 rfl) ?_
            refine g11_23 hx hb hts hi11 hown hK hW (k := 0) rfl (hts _ (wm 2 rfl)) dX11_readNumber_68 ?_
            refine lv_iload_n hx hb dX11_readNumber_71 rfl (lv_at hl 2 rfl) ?_
            obtain ⟨hn72, hr⟩ := chk_e hr
            refine xiald hx hb hK hW (k := 15) (t := 20) rfl (by decide) (by decide) rfl (n := 4) hn72 (jx := (ix x1)) rfl dX11_readNumber_72 ?_
            refine lv_imul hx hb dX11_readNumber_73 ?_
            refine lv_aload_n hx hb dX11_readNumber_74 rfl (lv_at hl 1 rfl) ?_
            obtain ⟨r_7, hc75, hr⟩ := ob1_e hr
            refine xk_i (va_runV (As := []) (rest := [.int ((10 : Int32) * (gI M_3 15 (ix x1))), .int x1, .ref (ad 15)]) ⟨hx, hb, hml, hown, hts⟩ (c_X11_here l D cA ad M_3 hc75) (cwV 0 hts gX11_readNumber_X11_here rfl rfl rfl (by decide +kernel) ⟨Nat.le_of_ble_eq_true rfl, Nat.le_of_ble_eq_true rfl⟩) (xpreV hK hW (k := 0) rfl (by decide) rfl) rfl rfl hl.1 rfl (lv_room (Nat.le_of_ble_eq_true rfl)) dX11_readNumber_75 ⟨Nat.le_of_ble_eq_true rfl, Nat.le_of_ble_eq_true rfl⟩) hW (fun H locs hW => ?_)
            refine lv_iadd hx hb dX11_readNumber_78 ?_
            refine lv_bipush (v := (48 : Int32)) hx hb dX11_readNumber_79 (by decide) ?_
            refine lv_isub hx hb dX11_readNumber_81 ?_
            obtain ⟨hn82, hr⟩ := chk_e hr
            obtain ⟨M_8, eM_8, hr⟩ := lt1_e hr
            refine xiast hx hb hK hW (k := 15) (t := 20) rfl (by decide) (by decide) rfl (n := 4) hn82 (jx := (ix x1)) rfl dX11_readNumber_82 (fun H locs hW => ?_)
            rw [← eM_8] at hW
            refine lv_aload_n hx hb dX11_readNumber_83 rfl (lv_at hl 1 rfl) ?_
            refine lv_dup hx hb dX11_readNumber_84 rfl ?_
            refine g11_21 hx hb hts hi11 hown hK hW (k := 0) rfl (hts _ (wm 1 rfl)) dX11_readNumber_85 ?_
            refine lv_iconst (v := (1 : Int32)) hx hb dX11_readNumber_88 (by decide) ?_
            refine lv_iadd hx hb dX11_readNumber_89 ?_
            obtain ⟨M_9, eM_9, hr⟩ := lt1_e hr
            refine p11_21 hx hb hts hi11 hown hK hW (k := 0) rfl (hts _ (wm 1 rfl)) dX11_readNumber_90 (fun H locs hW => ?_)
            rw [← eM_9] at hW
            refine lv_goto (tgt := 13) hx hb dX11_readNumber_93 (by decide) ?_
            exact ih M_9 _ _ _ hW (lv_sub hl [0, 1, 2, 3, 4] rfl) _ hr hk
          · have hr := br_n c1 hr
            refine lv_aload_n hx hb dX11_readNumber_48 rfl (lv_at hl 1 rfl) ?_
            refine g11_8 hx hb hts hi11 hown hK hW (k := 0) rfl (hts _ (wm 3 rfl)) dX11_readNumber_49 ?_
            refine lv_iload hx hb dX11_readNumber_52 (lv_at hl 0 rfl) ?_
            obtain ⟨hn54, hr⟩ := chk_e hr
            refine xiald hx hb hK hW (k := 8) (t := 23) rfl (by decide) (by decide) rfl (n := 100) hn54 (jx := (ix x4_1)) rfl dX11_readNumber_54 ?_
            refine lv_bipush (v := (48 : Int32)) hx hb dX11_readNumber_55 (by decide) ?_
            refine lv_icmp_eq (tgt := 96) hx hb dX11_readNumber_57 (by decide) (fun c1 => ?_) (fun c1 => ?_)
            · have hr := br_p c1 hr
              have e1 := Option.some.inj hr
              subst e1
              exact hk _ _ _ hW (lv_sub hl [0, 1, 2, 3, 4] rfl)
            · have hr := br_n c1 hr
              refine lv_aload_n hx hb dX11_readNumber_60 rfl (lv_at hl 1 rfl) ?_
              refine g11_23 hx hb hts hi11 hown hK hW (k := 0) rfl (hts _ (wm 2 rfl)) dX11_readNumber_61 ?_
              refine lv_iload_n hx hb dX11_readNumber_64 rfl (lv_at hl 2 rfl) ?_
              refine lv_bipush (v := (10 : Int32)) hx hb dX11_readNumber_65 (by decide) ?_
              refine lv_aload_n hx hb dX11_readNumber_67 rfl (lv_at hl 1 rfl) ?_
              refine g11_23 hx hb hts hi11 hown hK hW (k := 0) rfl (hts _ (wm 2 rfl)) dX11_readNumber_68 ?_
              refine lv_iload_n hx hb dX11_readNumber_71 rfl (lv_at hl 2 rfl) ?_
              obtain ⟨hn72, hr⟩ := chk_e hr
              refine xiald hx hb hK hW (k := 15) (t := 20) rfl (by decide) (by decide) rfl (n := 4) hn72 (jx := (ix x1)) rfl dX11_readNumber_72 ?_
              refine lv_imul hx hb dX11_readNumber_73 ?_
              refine lv_aload_n hx hb dX11_readNumber_74 rfl (lv_at hl 1 rfl) ?_
              obtain ⟨r_10, hc75, hr⟩ := ob1_e hr
              refine xk_i (va_runV (As := []) (rest := [.int ((10 : Int32) * (gI M_3 15 (ix x1))), .int x1, .ref (ad 15)]) ⟨hx, hb, hml, hown, hts⟩ (c_X11_here l D cA ad M_3 hc75) (cwV 0 hts gX11_readNumber_X11_here rfl rfl rfl (by decide +kernel) ⟨Nat.le_of_ble_eq_true rfl, Nat.le_of_ble_eq_true rfl⟩) (xpreV hK hW (k := 0) rfl (by decide) rfl) rfl rfl hl.1 rfl (lv_room (Nat.le_of_ble_eq_true rfl)) dX11_readNumber_75 ⟨Nat.le_of_ble_eq_true rfl, Nat.le_of_ble_eq_true rfl⟩) hW (fun H locs hW => ?_)
              refine lv_iadd hx hb dX11_readNumber_78 ?_
              refine lv_bipush (v := (48 : Int32)) hx hb dX11_readNumber_79 (by decide) ?_
              refine lv_isub hx hb dX11_readNumber_81 ?_
              obtain ⟨hn82, hr⟩ := chk_e hr
              obtain ⟨M_11, eM_11, hr⟩ := lt1_e hr
              refine xiast hx hb hK hW (k := 15) (t := 20) rfl (by decide) (by decide) rfl (n := 4) hn82 (jx := (ix x1)) rfl dX11_readNumber_82 (fun H locs hW => ?_)
              rw [← eM_11] at hW
              refine lv_aload_n hx hb dX11_readNumber_83 rfl (lv_at hl 1 rfl) ?_
              refine lv_dup hx hb dX11_readNumber_84 rfl ?_
              refine g11_21 hx hb hts hi11 hown hK hW (k := 0) rfl (hts _ (wm 1 rfl)) dX11_readNumber_85 ?_
              refine lv_iconst (v := (1 : Int32)) hx hb dX11_readNumber_88 (by decide) ?_
              refine lv_iadd hx hb dX11_readNumber_89 ?_
              obtain ⟨M_12, eM_12, hr⟩ := lt1_e hr
              refine p11_21 hx hb hts hi11 hown hK hW (k := 0) rfl (hts _ (wm 1 rfl)) dX11_readNumber_90 (fun H locs hW => ?_)
              rw [← eM_12] at hW
              refine lv_goto (tgt := 13) hx hb dX11_readNumber_93 (by decide) ?_
              exact ih M_12 _ _ _ hW (lv_sub hl [0, 1, 2, 3, 4] rfl) _ hr hk
  obtain ⟨M_4, hr, hr3⟩ := ob1_e hr
  refine hL13_1 1000 M_2 _ _ _ M_4 hW (lv_sub hl [0, 1, 2, 3, 4] rfl) hr (fun H locs ls hW hl => ?_)
  clear hr
  have hr := hr3
  refine lv_aload_n hx hb dX11_readNumber_96 rfl (lv_at hl 1 rfl) ?_
  refine g11_21 hx hb hts hi11 hown hK hW (k := 0) rfl (hts _ (wm 1 rfl)) dX11_readNumber_97 ?_
  refine lv_iload hx hb dX11_readNumber_100 (lv_at hl 0 rfl) ?_
  obtain ⟨y_13, hr, hr3⟩ := ob1_e hr
  have hj124_13 : ∀ (H : Heap) (locs : List Loc) (ls : Array Slot), Xw D false cA ad M_4 (AX false ad) s.heap H locs → lv_has ls 6 [(4, .int x4_1), (0, .ref (ad 0))] → W p l e (headSpec wsX11_readNumber { frames := 1, cells := 0, slots := 0, locals := 22 }).room s m args below meth c H locs 0 0 (MQ below (QiX false D false cA ad r M') args s 0 0 (AX false ad)) (F0 m 124 ls [.int y_13]) := by
    intro H locs ls hW hl
    have hr := hr3
    refine lv_istore (lv' := [(5, .int y_13), (4, .int x4_1), (0, .ref (ad 0))]) hx hb dX11_readNumber_124 hl (by decide) rfl (fun ls hl => ?_)
    refine lv_aload_n hx hb dX11_readNumber_126 rfl (lv_at hl 2 rfl) ?_
    refine lv_iload hx hb dX11_readNumber_127 (lv_at hl 0 rfl) ?_
    obtain ⟨y_15, hr, hr3⟩ := ob1_e hr
    have hj141_15 : ∀ (H : Heap) (locs : List Loc) (ls : Array Slot), Xw D false cA ad M_4 (AX false ad) s.heap H locs → lv_has ls 6 [(5, .int y_13)] → W p l e (headSpec wsX11_readNumber { frames := 1, cells := 0, slots := 0, locals := 22 }).room s m args below meth c H locs 0 0 (MQ below (QiX false D false cA ad r M') args s 0 0 (AX false ad)) (F0 m 141 ls [.int y_15, .ref (ad 0)]) := by
      intro H locs ls hW hl
      have hr := hr3
      obtain ⟨M_16, eM_16, hr⟩ := lt1_e hr
      refine p11_21 hx hb hts hi11 hown hK hW (k := 0) rfl (hts _ (wm 1 rfl)) dX11_readNumber_141 (fun H locs hW => ?_)
      rw [← eM_16] at hW
      refine lv_iload hx hb dX11_readNumber_144 (lv_at hl 0 rfl) ?_
      obtain ⟨hz146, hr⟩ := chk_e hr
      obtain ⟨e1, e2⟩ := Prod.mk.inj (Option.some.inj hr)
      rw [← e1, ← e2]
      exact xzret hx hb hr0 hlocks hW adR_rf hz146 dX11_readNumber_146
    clear hr3
    refine lv_if_eq (tgt := 139) hx hb dX11_readNumber_129 (by decide) (fun c1 => ?_) (fun c1 => ?_)
    · have hr := br_p c1 hr
      refine lv_iload hx hb dX11_readNumber_139 (lv_at hl 1 rfl) ?_
      have e1 := Option.some.inj hr
      subst e1
      exact hj141_15 _ _ _ hW (lv_sub hl [0] rfl)
    · have hr := br_n c1 hr
      refine lv_aload_n hx hb dX11_readNumber_132 rfl (lv_at hl 2 rfl) ?_
      refine g11_21 hx hb hts hi11 hown hK hW (k := 0) rfl (hts _ (wm 1 rfl)) dX11_readNumber_133 ?_
      refine lv_goto (tgt := 141) hx hb dX11_readNumber_136 (by decide) ?_
      have e1 := Option.some.inj hr
      subst e1
      exact hj141_15 _ _ _ hW (lv_sub hl [0] rfl)
  clear hr3
  refine lv_icmp_le (tgt := 123) hx hb dX11_readNumber_102 (by decide) (fun c1 => ?_) (fun c1 => ?_)
  · have hr := br_p c1 hr
    refine lv_iconst (v := (0 : Int32)) hx hb dX11_readNumber_123 (by decide) ?_
    have e1 := Option.some.inj hr
    subst e1
    exact hj124_13 _ _ _ hW (lv_sub hl [0, 1] rfl)
  · have hr := br_n c1 hr
    refine lv_aload_n hx hb dX11_readNumber_105 rfl (lv_at hl 1 rfl) ?_
    refine g11_23 hx hb hts hi11 hown hK hW (k := 0) rfl (hts _ (wm 2 rfl)) dX11_readNumber_106 ?_
    refine lv_iload_n hx hb dX11_readNumber_109 rfl (lv_at hl 2 rfl) ?_
    obtain ⟨hn110, hr⟩ := chk_e hr
    refine xiald hx hb hK hW (k := 15) (t := 20) rfl (by decide) (by decide) rfl (n := 4) hn110 (jx := (ix x1)) rfl dX11_readNumber_110 ?_
    refine lv_iload_n hx hb dX11_readNumber_111 rfl (lv_at hl 3 rfl) ?_
    refine lv_iload_n hx hb dX11_readNumber_112 rfl (lv_at hl 4 rfl) ?_
    obtain ⟨r_14, hc113, hr⟩ := ob1_e hr
    refine xk_i (va_runS (As := [.int (gI M_4 15 (ix x1)), .int x2, .int x3]) (rest := []) ⟨hx, hb, hml, hown, hts⟩ (c_X11_in l D cA ad M_4 (gI M_4 15 (ix x1)) x2 x3 hc113) (va_cwS 3 hts gX11_readNumber_X11_in rfl rfl rfl (by decide +kernel) ⟨Nat.le_of_ble_eq_true rfl, Nat.le_of_ble_eq_true rfl⟩) (xpreS hK hW) rfl rfl hl.1 rfl (lv_room (Nat.le_of_ble_eq_true rfl)) dX11_readNumber_113 ⟨Nat.le_of_ble_eq_true rfl, Nat.le_of_ble_eq_true rfl⟩) hW (fun H locs hW => ?_)
    refine lv_if_eq (tgt := 123) hx hb dX11_readNumber_116 (by decide) (fun c1 => ?_) (fun c1 => ?_)
    · have hr := br_p c1 hr
      refine lv_iconst (v := (0 : Int32)) hx hb dX11_readNumber_123 (by decide) ?_
      have e1 := Option.some.inj hr
      subst e1
      exact hj124_13 _ _ _ hW (lv_sub hl [0, 1] rfl)
    · have hr := br_n c1 hr
      refine lv_iconst (v := (1 : Int32)) hx hb dX11_readNumber_119 (by decide) ?_
      refine lv_goto (tgt := 124) hx hb dX11_readNumber_120 (by decide) ?_
      have e1 := Option.some.inj hr
      subst e1
      exact hj124_13 _ _ _ hW (lv_sub hl [0, 1] rfl)

set_option maxHeartbeats 4000000 in
set_option maxRecDepth 100000 in
theorem c_X11_readAct (l : Launch) (D : va_G) (cA : Nat → ClassId) (ad : Nat → Nat) (M : Mm) {r : Int32} {M' : Mm} (hr : f_X11_readAct M = some (r, M')) : Met l yX11_readAct wsX11_readAct ({ frames := 2, cells := 0, slots := 0, locals := 47 }) (PcX D false cA ad M [.ref (ad 0)]) (QiX false D false cA ad r M') 0 0 (AX false ad) := by
  refine Met.ofW (cc := cX11_readAct) (maxL := 2) (ret := (some .boolean)) (by decide) rfl ?_
  intro p e s m args below meth c s₁ B hml hv
  obtain ⟨rfl, hP0, hK⟩ := hv
  have hx := B.exec
  have hb := B.bytes
  have hr0 := B.returns
  have hts := atoms_spec (ws := wsX11_readAct) B.pre
  have hown : s.vm.findClass RX11 = some m.cls := findClass_of_methodNamed B.named
  have hlocks := B.notSynchronized
  have hW := xstart hP0
  have hi11 : ∀ w ∈ wsX110, w ∈ wsX11_readAct := fun w h => List.mem_cons_of_mem _ (List.mem_append_right _ h)
  have hl := lv_entry ([.ref (ad 0)]) (n := 2) (Nat.le_of_ble_eq_true rfl)
  rw [lg_entry_eq]
  generalize (lg_sl ([.ref (ad 0)]) ++ List.replicate (2 - (lg_sl ([.ref (ad 0)])).length) Slot.unset).toArray = ls at hl ⊢
  have hl : lv_has ls 2 [(0, .ref (ad 0))] := hl
  clear hP0
  unfold f_X11_readAct at hr
  refine lv_aload_n hx hb dX11_readAct_0 rfl (lv_at hl 0 rfl) ?_
  refine lv_aload_n hx hb dX11_readAct_1 rfl (lv_at hl 0 rfl) ?_
  obtain ⟨r_1, hc2, hr⟩ := ob1_e hr
  refine xk_i (va_runV (As := []) (rest := [.ref (ad 0)]) ⟨hx, hb, hml, hown, hts⟩ (c_X11_here l D cA ad M hc2) (cwV 0 hts gX11_readAct_X11_here rfl rfl rfl (by decide +kernel) ⟨Nat.le_of_ble_eq_true rfl, Nat.le_of_ble_eq_true rfl⟩) (xpreV hK hW (k := 0) rfl (by decide) rfl) rfl rfl hl.1 rfl (lv_room (Nat.le_of_ble_eq_true rfl)) dX11_readAct_2 ⟨Nat.le_of_ble_eq_true rfl, Nat.le_of_ble_eq_true rfl⟩) hW (fun H locs hW => ?_)
  obtain ⟨M_2, eM_2, hr⟩ := lt1_e hr
  refine p11_22 hx hb hts hi11 hown hK hW (k := 0) rfl (hts _ (wm 1 rfl)) dX11_readAct_5 (fun H locs hW => ?_)
  rw [← eM_2] at hW
  refine lv_aload_n hx hb dX11_readAct_8 rfl (lv_at hl 0 rfl) ?_
  refine g11_22 hx hb hts hi11 hown hK hW (k := 0) rfl (hts _ (wm 1 rfl)) dX11_readAct_9 ?_
  refine lv_bipush (v := (115 : Int32)) hx hb dX11_readAct_12 (by decide) ?_
  refine lv_icmp_eq (tgt := 37) hx hb dX11_readAct_14 (by decide) (fun c1 => ?_) (fun c1 => ?_)
  · have hr := br_p c1 hr
    refine lv_aload_n hx hb dX11_readAct_37 rfl (lv_at hl 0 rfl) ?_
    refine lv_dup hx hb dX11_readAct_38 rfl ?_
    refine g11_21 hx hb hts hi11 hown hK hW (k := 0) rfl (hts _ (wm 2 rfl)) dX11_readAct_39 ?_
    refine lv_iconst (v := (1 : Int32)) hx hb dX11_readAct_42 (by decide) ?_
    refine lv_iadd hx hb dX11_readAct_43 ?_
    obtain ⟨M_3, eM_3, hr⟩ := lt1_e hr
    refine p11_21 hx hb hts hi11 hown hK hW (k := 0) rfl (hts _ (wm 2 rfl)) dX11_readAct_44 (fun H locs hW => ?_)
    rw [← eM_3] at hW
    refine lv_aload_n hx hb dX11_readAct_47 rfl (lv_at hl 0 rfl) ?_
    refine g11_22 hx hb hts hi11 hown hK hW (k := 0) rfl (hts _ (wm 1 rfl)) dX11_readAct_48 ?_
    refine lv_bipush (v := (115 : Int32)) hx hb dX11_readAct_51 (by decide) ?_
    obtain ⟨y_4, M_5, hr, hr3⟩ := ob2_e hr
    have hj135_5 : ∀ (H : Heap) (locs : List Loc) (ls : Array Slot), Xw D false cA ad M_5 (AX false ad) s.heap H locs → lv_has ls 2 [(0, .ref (ad 0))] → W p l e (headSpec wsX11_readAct { frames := 2, cells := 0, slots := 0, locals := 47 }).room s m args below meth c H locs 0 0 (MQ below (QiX false D false cA ad r M') args s 0 0 (AX false ad)) (F0 m 135 ls [.int y_4]) := by
      intro H locs ls hW hl
      have hr := hr3
      refine lv_istore_n (lv' := [(1, .int y_4), (0, .ref (ad 0))]) hx hb dX11_readAct_135 rfl hl (by decide) rfl (fun ls hl => ?_)
      refine lv_iload_n hx hb dX11_readAct_136 rfl (lv_at hl 0 rfl) ?_
      refine lv_if_eq (tgt := 153) hx hb dX11_readAct_137 (by decide) (fun c1 => ?_) (fun c1 => ?_)
      · have hr := br_p c1 hr
        refine lv_iconst (v := (0 : Int32)) hx hb dX11_readAct_153 (by decide) ?_
        obtain ⟨e1, e2⟩ := Prod.mk.inj (Option.some.inj hr)
        rw [← e1, ← e2]
        exact xzret hx hb hr0 hlocks hW adR_rf (by decide) dX11_readAct_154
      · have hr := br_n c1 hr
        refine lv_aload_n hx hb dX11_readAct_140 rfl (lv_at hl 1 rfl) ?_
        refine lv_bipush (v := (59 : Int32)) hx hb dX11_readAct_141 (by decide) ?_
        obtain ⟨r_21, M_20, hc143, hr⟩ := ob2_e hr
        refine xk_i (va_runV (As := [.int (59 : Int32)]) (rest := []) ⟨hx, hb, hml, hown, hts⟩ (c_X11_passes l D cA ad M_5 (59 : Int32) hc143) (cwV 1 hts gX11_readAct_X11_passes rfl rfl rfl (by decide +kernel) ⟨Nat.le_of_ble_eq_true rfl, Nat.le_of_ble_eq_true rfl⟩) (xpreV hK hW (k := 0) rfl (by decide) rfl) rfl rfl hl.1 rfl (lv_room (Nat.le_of_ble_eq_true rfl)) dX11_readAct_143 ⟨Nat.le_of_ble_eq_true rfl, Nat.le_of_ble_eq_true rfl⟩) hW (fun H locs hW => ?_)
        refine lv_if_eq (tgt := 153) hx hb dX11_readAct_146 (by decide) (fun c1 => ?_) (fun c1 => ?_)
        · have hr := br_p c1 hr
          refine lv_iconst (v := (0 : Int32)) hx hb dX11_readAct_153 (by decide) ?_
          obtain ⟨e1, e2⟩ := Prod.mk.inj (Option.some.inj hr)
          rw [← e1, ← e2]
          exact xzret hx hb hr0 hlocks hW adR_rf (by decide) dX11_readAct_154
        · have hr := br_n c1 hr
          refine lv_iconst (v := (1 : Int32)) hx hb dX11_readAct_149 (by decide) ?_
          refine lv_goto (tgt := 154) hx hb dX11_readAct_150 (by decide) ?_
          obtain ⟨e1, e2⟩ := Prod.mk.inj (Option.some.inj hr)
          rw [← e1, ← e2]
          exact xzret hx hb hr0 hlocks hW adR_rf (by decide) dX11_readAct_154
    clear hr3
    refine lv_icmp_ne (tgt := 130) hx hb dX11_readAct_53 (by decide) (fun c1 => ?_) (fun c1 => ?_)
    · have hr := br_n c1 hr
      refine lv_iconst (v := (1 : Int32)) hx hb dX11_readAct_130 (by decide) ?_
      refine lv_goto (tgt := 135) hx hb dX11_readAct_131 (by decide) ?_
      obtain ⟨e1, e2⟩ := Prod.mk.inj (Option.some.inj hr)
      subst e1
      subst e2
      exact hj135_5 _ _ _ hW (lv_sub hl [0] rfl)
    · have hr := br_p c1 hr
      refine lv_aload_n hx hb dX11_readAct_56 rfl (lv_at hl 0 rfl) ?_
      refine lv_iconst (v := (0 : Int32)) hx hb dX11_readAct_57 (by decide) ?_
      refine lv_iconst (v := (0 : Int32)) hx hb dX11_readAct_58 (by decide) ?_
      refine lv_iconst (v := (3 : Int32)) hx hb dX11_readAct_59 (by decide) ?_
      obtain ⟨r_7, M_6, hc60, hr⟩ := ob2_e hr
      refine xk_i (va_runV (As := [.int (0 : Int32), .int (0 : Int32), .int (3 : Int32)]) (rest := []) ⟨hx, hb, hml, hown, hts⟩ (c_X11_readNumber l D cA ad M_3 (0 : Int32) (0 : Int32) (3 : Int32) hc60) (cwV 3 hts gX11_readAct_X11_readNumber rfl rfl rfl (by decide +kernel) ⟨Nat.le_of_ble_eq_true rfl, Nat.le_of_ble_eq_true rfl⟩) (xpreV hK hW (k := 0) rfl (by decide) rfl) rfl rfl hl.1 rfl (lv_room (Nat.le_of_ble_eq_true rfl)) dX11_readAct_60 ⟨Nat.le_of_ble_eq_true rfl, Nat.le_of_ble_eq_true rfl⟩) hW (fun H locs hW => ?_)
      refine lv_if_eq (tgt := 134) hx hb dX11_readAct_63 (by decide) (fun c1 => ?_) (fun c1 => ?_)
      · have hr := br_p c1 hr
        refine lv_iconst (v := (0 : Int32)) hx hb dX11_readAct_134 (by decide) ?_
        obtain ⟨e1, e2⟩ := Prod.mk.inj (Option.some.inj hr)
        subst e1
        subst e2
        exact hj135_5 _ _ _ hW (lv_sub hl [0] rfl)
      · have hr := br_n c1 hr
        refine lv_aload_n hx hb dX11_readAct_66 rfl (lv_at hl 0 rfl) ?_
        refine lv_bipush (v := (102 : Int32)) hx hb dX11_readAct_67 (by decide) ?_
        obtain ⟨r_9, M_8, hc69, hr⟩ := ob2_e hr
        refine xk_i (va_runV (As := [.int (102 : Int32)]) (rest := []) ⟨hx, hb, hml, hown, hts⟩ (c_X11_passes l D cA ad M_6 (102 : Int32) hc69) (cwV 1 hts gX11_readAct_X11_passes rfl rfl rfl (by decide +kernel) ⟨Nat.le_of_ble_eq_true rfl, Nat.le_of_ble_eq_true rfl⟩) (xpreV hK hW (k := 0) rfl (by decide) rfl) rfl rfl hl.1 rfl (lv_room (Nat.le_of_ble_eq_true rfl)) dX11_readAct_69 ⟨Nat.le_of_ble_eq_true rfl, Nat.le_of_ble_eq_true rfl⟩) hW (fun H locs hW => ?_)
        refine lv_if_eq (tgt := 134) hx hb dX11_readAct_72 (by decide) (fun c1 => ?_) (fun c1 => ?_)
        · have hr := br_p c1 hr
          refine lv_iconst (v := (0 : Int32)) hx hb dX11_readAct_134 (by decide) ?_
          obtain ⟨e1, e2⟩ := Prod.mk.inj (Option.some.inj hr)
          subst e1
          subst e2
          exact hj135_5 _ _ _ hW (lv_sub hl [0] rfl)
        · have hr := br_n c1 hr
          refine lv_aload_n hx hb dX11_readAct_75 rfl (lv_at hl 0 rfl) ?_
          refine lv_iconst (v := (1 : Int32)) hx hb dX11_readAct_76 (by decide) ?_
          refine lv_sipush (v := (1000 : Int32)) hx hb dX11_readAct_77 (by decide) ?_
          refine lv_ldc (v := (9999999 : Int32)) hx hb hown (hts _ (wm 3 rfl)) dX11_readAct_80 ?_
          obtain ⟨r_11, M_10, hc82, hr⟩ := ob2_e hr
          refine xk_i (va_runV (As := [.int (1 : Int32), .int (1000 : Int32), .int (9999999 : Int32)]) (rest := []) ⟨hx, hb, hml, hown, hts⟩ (c_X11_readNumber l D cA ad M_8 (1 : Int32) (1000 : Int32) (9999999 : Int32) hc82) (cwV 3 hts gX11_readAct_X11_readNumber rfl rfl rfl (by decide +kernel) ⟨Nat.le_of_ble_eq_true rfl, Nat.le_of_ble_eq_true rfl⟩) (xpreV hK hW (k := 0) rfl (by decide) rfl) rfl rfl hl.1 rfl (lv_room (Nat.le_of_ble_eq_true rfl)) dX11_readAct_82 ⟨Nat.le_of_ble_eq_true rfl, Nat.le_of_ble_eq_true rfl⟩) hW (fun H locs hW => ?_)
          refine lv_if_eq (tgt := 134) hx hb dX11_readAct_85 (by decide) (fun c1 => ?_) (fun c1 => ?_)
          · have hr := br_p c1 hr
            refine lv_iconst (v := (0 : Int32)) hx hb dX11_readAct_134 (by decide) ?_
            obtain ⟨e1, e2⟩ := Prod.mk.inj (Option.some.inj hr)
            subst e1
            subst e2
            exact hj135_5 _ _ _ hW (lv_sub hl [0] rfl)
          · have hr := br_n c1 hr
            refine lv_aload_n hx hb dX11_readAct_88 rfl (lv_at hl 0 rfl) ?_
            refine lv_bipush (v := (98 : Int32)) hx hb dX11_readAct_89 (by decide) ?_
            obtain ⟨r_13, M_12, hc91, hr⟩ := ob2_e hr
            refine xk_i (va_runV (As := [.int (98 : Int32)]) (rest := []) ⟨hx, hb, hml, hown, hts⟩ (c_X11_passes l D cA ad M_10 (98 : Int32) hc91) (cwV 1 hts gX11_readAct_X11_passes rfl rfl rfl (by decide +kernel) ⟨Nat.le_of_ble_eq_true rfl, Nat.le_of_ble_eq_true rfl⟩) (xpreV hK hW (k := 0) rfl (by decide) rfl) rfl rfl hl.1 rfl (lv_room (Nat.le_of_ble_eq_true rfl)) dX11_readAct_91 ⟨Nat.le_of_ble_eq_true rfl, Nat.le_of_ble_eq_true rfl⟩) hW (fun H locs hW => ?_)
            refine lv_if_eq (tgt := 134) hx hb dX11_readAct_94 (by decide) (fun c1 => ?_) (fun c1 => ?_)
            · have hr := br_p c1 hr
              refine lv_iconst (v := (0 : Int32)) hx hb dX11_readAct_134 (by decide) ?_
              obtain ⟨e1, e2⟩ := Prod.mk.inj (Option.some.inj hr)
              subst e1
              subst e2
              exact hj135_5 _ _ _ hW (lv_sub hl [0] rfl)
            · have hr := br_n c1 hr
              refine lv_aload_n hx hb dX11_readAct_97 rfl (lv_at hl 0 rfl) ?_
              refine lv_iconst (v := (2 : Int32)) hx hb dX11_readAct_98 (by decide) ?_
              refine lv_sipush (v := (1000 : Int32)) hx hb dX11_readAct_99 (by decide) ?_
              refine lv_ldc (v := (9999999 : Int32)) hx hb hown (hts _ (wm 3 rfl)) dX11_readAct_102 ?_
              obtain ⟨r_15, M_14, hc104, hr⟩ := ob2_e hr
              refine xk_i (va_runV (As := [.int (2 : Int32), .int (1000 : Int32), .int (9999999 : Int32)]) (rest := []) ⟨hx, hb, hml, hown, hts⟩ (c_X11_readNumber l D cA ad M_12 (2 : Int32) (1000 : Int32) (9999999 : Int32) hc104) (cwV 3 hts gX11_readAct_X11_readNumber rfl rfl rfl (by decide +kernel) ⟨Nat.le_of_ble_eq_true rfl, Nat.le_of_ble_eq_true rfl⟩) (xpreV hK hW (k := 0) rfl (by decide) rfl) rfl rfl hl.1 rfl (lv_room (Nat.le_of_ble_eq_true rfl)) dX11_readAct_104 ⟨Nat.le_of_ble_eq_true rfl, Nat.le_of_ble_eq_true rfl⟩) hW (fun H locs hW => ?_)
              refine lv_if_eq (tgt := 134) hx hb dX11_readAct_107 (by decide) (fun c1 => ?_) (fun c1 => ?_)
              · have hr := br_p c1 hr
                refine lv_iconst (v := (0 : Int32)) hx hb dX11_readAct_134 (by decide) ?_
                obtain ⟨e1, e2⟩ := Prod.mk.inj (Option.some.inj hr)
                subst e1
                subst e2
                exact hj135_5 _ _ _ hW (lv_sub hl [0] rfl)
              · have hr := br_n c1 hr
                refine lv_aload_n hx hb dX11_readAct_110 rfl (lv_at hl 0 rfl) ?_
                refine lv_bipush (v := (113 : Int32)) hx hb dX11_readAct_111 (by decide) ?_
                obtain ⟨r_17, M_16, hc113, hr⟩ := ob2_e hr
                refine xk_i (va_runV (As := [.int (113 : Int32)]) (rest := []) ⟨hx, hb, hml, hown, hts⟩ (c_X11_passes l D cA ad M_14 (113 : Int32) hc113) (cwV 1 hts gX11_readAct_X11_passes rfl rfl rfl (by decide +kernel) ⟨Nat.le_of_ble_eq_true rfl, Nat.le_of_ble_eq_true rfl⟩) (xpreV hK hW (k := 0) rfl (by decide) rfl) rfl rfl hl.1 rfl (lv_room (Nat.le_of_ble_eq_true rfl)) dX11_readAct_113 ⟨Nat.le_of_ble_eq_true rfl, Nat.le_of_ble_eq_true rfl⟩) hW (fun H locs hW => ?_)
                refine lv_if_eq (tgt := 134) hx hb dX11_readAct_116 (by decide) (fun c1 => ?_) (fun c1 => ?_)
                · have hr := br_p c1 hr
                  refine lv_iconst (v := (0 : Int32)) hx hb dX11_readAct_134 (by decide) ?_
                  obtain ⟨e1, e2⟩ := Prod.mk.inj (Option.some.inj hr)
                  subst e1
                  subst e2
                  exact hj135_5 _ _ _ hW (lv_sub hl [0] rfl)
                · have hr := br_n c1 hr
                  refine lv_aload_n hx hb dX11_readAct_119 rfl (lv_at hl 0 rfl) ?_
                  refine lv_iconst (v := (3 : Int32)) hx hb dX11_readAct_120 (by decide) ?_
                  refine lv_iconst (v := (0 : Int32)) hx hb dX11_readAct_121 (by decide) ?_
                  refine lv_bipush (v := (100 : Int32)) hx hb dX11_readAct_122 (by decide) ?_
                  obtain ⟨r_19, M_18, hc124, hr⟩ := ob2_e hr
                  refine xk_i (va_runV (As := [.int (3 : Int32), .int (0 : Int32), .int (100 : Int32)]) (rest := []) ⟨hx, hb, hml, hown, hts⟩ (c_X11_readNumber l D cA ad M_16 (3 : Int32) (0 : Int32) (100 : Int32) hc124) (cwV 3 hts gX11_readAct_X11_readNumber rfl rfl rfl (by decide +kernel) ⟨Nat.le_of_ble_eq_true rfl, Nat.le_of_ble_eq_true rfl⟩) (xpreV hK hW (k := 0) rfl (by decide) rfl) rfl rfl hl.1 rfl (lv_room (Nat.le_of_ble_eq_true rfl)) dX11_readAct_124 ⟨Nat.le_of_ble_eq_true rfl, Nat.le_of_ble_eq_true rfl⟩) hW (fun H locs hW => ?_)
                  refine lv_if_eq (tgt := 134) hx hb dX11_readAct_127 (by decide) (fun c1 => ?_) (fun c1 => ?_)
                  · have hr := br_p c1 hr
                    refine lv_iconst (v := (0 : Int32)) hx hb dX11_readAct_134 (by decide) ?_
                    obtain ⟨e1, e2⟩ := Prod.mk.inj (Option.some.inj hr)
                    subst e1
                    subst e2
                    exact hj135_5 _ _ _ hW (lv_sub hl [0] rfl)
                  · have hr := br_n c1 hr
                    refine lv_iconst (v := (1 : Int32)) hx hb dX11_readAct_130 (by decide) ?_
                    refine lv_goto (tgt := 135) hx hb dX11_readAct_131 (by decide) ?_
                    obtain ⟨e1, e2⟩ := Prod.mk.inj (Option.some.inj hr)
                    subst e1
                    subst e2
                    exact hj135_5 _ _ _ hW (lv_sub hl [0] rfl)
  · have hr := br_n c1 hr
    refine lv_aload_n hx hb dX11_readAct_17 rfl (lv_at hl 0 rfl) ?_
    refine g11_22 hx hb hts hi11 hown hK hW (k := 0) rfl (hts _ (wm 1 rfl)) dX11_readAct_18 ?_
    refine lv_bipush (v := (99 : Int32)) hx hb dX11_readAct_21 (by decide) ?_
    refine lv_icmp_eq (tgt := 37) hx hb dX11_readAct_23 (by decide) (fun c1 => ?_) (fun c1 => ?_)
    · have hr := br_p c1 hr
      refine lv_aload_n hx hb dX11_readAct_37 rfl (lv_at hl 0 rfl) ?_
      refine lv_dup hx hb dX11_readAct_38 rfl ?_
      refine g11_21 hx hb hts hi11 hown hK hW (k := 0) rfl (hts _ (wm 2 rfl)) dX11_readAct_39 ?_
      refine lv_iconst (v := (1 : Int32)) hx hb dX11_readAct_42 (by decide) ?_
      refine lv_iadd hx hb dX11_readAct_43 ?_
      obtain ⟨M_22, eM_22, hr⟩ := lt1_e hr
      refine p11_21 hx hb hts hi11 hown hK hW (k := 0) rfl (hts _ (wm 2 rfl)) dX11_readAct_44 (fun H locs hW => ?_)
      rw [← eM_22] at hW
      refine lv_aload_n hx hb dX11_readAct_47 rfl (lv_at hl 0 rfl) ?_
      refine g11_22 hx hb hts hi11 hown hK hW (k := 0) rfl (hts _ (wm 1 rfl)) dX11_readAct_48 ?_
      refine lv_bipush (v := (115 : Int32)) hx hb dX11_readAct_51 (by decide) ?_
      obtain ⟨y_23, M_24, hr, hr3⟩ := ob2_e hr
      have hj135_24 : ∀ (H : Heap) (locs : List Loc) (ls : Array Slot), Xw D false cA ad M_24 (AX false ad) s.heap H locs → lv_has ls 2 [(0, .ref (ad 0))] → W p l e (headSpec wsX11_readAct { frames := 2, cells := 0, slots := 0, locals := 47 }).room s m args below meth c H locs 0 0 (MQ below (QiX false D false cA ad r M') args s 0 0 (AX false ad)) (F0 m 135 ls [.int y_23]) := by
        intro H locs ls hW hl
        have hr := hr3
        refine lv_istore_n (lv' := [(1, .int y_23), (0, .ref (ad 0))]) hx hb dX11_readAct_135 rfl hl (by decide) rfl (fun ls hl => ?_)
        refine lv_iload_n hx hb dX11_readAct_136 rfl (lv_at hl 0 rfl) ?_
        refine lv_if_eq (tgt := 153) hx hb dX11_readAct_137 (by decide) (fun c1 => ?_) (fun c1 => ?_)
        · have hr := br_p c1 hr
          refine lv_iconst (v := (0 : Int32)) hx hb dX11_readAct_153 (by decide) ?_
          obtain ⟨e1, e2⟩ := Prod.mk.inj (Option.some.inj hr)
          rw [← e1, ← e2]
          exact xzret hx hb hr0 hlocks hW adR_rf (by decide) dX11_readAct_154
        · have hr := br_n c1 hr
          refine lv_aload_n hx hb dX11_readAct_140 rfl (lv_at hl 1 rfl) ?_
          refine lv_bipush (v := (59 : Int32)) hx hb dX11_readAct_141 (by decide) ?_
          obtain ⟨r_40, M_39, hc143, hr⟩ := ob2_e hr
          refine xk_i (va_runV (As := [.int (59 : Int32)]) (rest := []) ⟨hx, hb, hml, hown, hts⟩ (c_X11_passes l D cA ad M_24 (59 : Int32) hc143) (cwV 1 hts gX11_readAct_X11_passes rfl rfl rfl (by decide +kernel) ⟨Nat.le_of_ble_eq_true rfl, Nat.le_of_ble_eq_true rfl⟩) (xpreV hK hW (k := 0) rfl (by decide) rfl) rfl rfl hl.1 rfl (lv_room (Nat.le_of_ble_eq_true rfl)) dX11_readAct_143 ⟨Nat.le_of_ble_eq_true rfl, Nat.le_of_ble_eq_true rfl⟩) hW (fun H locs hW => ?_)
          refine lv_if_eq (tgt := 153) hx hb dX11_readAct_146 (by decide) (fun c1 => ?_) (fun c1 => ?_)
          · have hr := br_p c1 hr
            refine lv_iconst (v := (0 : Int32)) hx hb dX11_readAct_153 (by decide) ?_
            obtain ⟨e1, e2⟩ := Prod.mk.inj (Option.some.inj hr)
            rw [← e1, ← e2]
            exact xzret hx hb hr0 hlocks hW adR_rf (by decide) dX11_readAct_154
          · have hr := br_n c1 hr
            refine lv_iconst (v := (1 : Int32)) hx hb dX11_readAct_149 (by decide) ?_
            refine lv_goto (tgt := 154) hx hb dX11_readAct_150 (by decide) ?_
            obtain ⟨e1, e2⟩ := Prod.mk.inj (Option.some.inj hr)
            rw [← e1, ← e2]
            exact xzret hx hb hr0 hlocks hW adR_rf (by decide) dX11_readAct_154
      clear hr3
      refine lv_icmp_ne (tgt := 130) hx hb dX11_readAct_53 (by decide) (fun c1 => ?_) (fun c1 => ?_)
      · have hr := br_n c1 hr
        refine lv_iconst (v := (1 : Int32)) hx hb dX11_readAct_130 (by decide) ?_
        refine lv_goto (tgt := 135) hx hb dX11_readAct_131 (by decide) ?_
        obtain ⟨e1, e2⟩ := Prod.mk.inj (Option.some.inj hr)
        subst e1
        subst e2
        exact hj135_24 _ _ _ hW (lv_sub hl [0] rfl)
      · have hr := br_p c1 hr
        refine lv_aload_n hx hb dX11_readAct_56 rfl (lv_at hl 0 rfl) ?_
        refine lv_iconst (v := (0 : Int32)) hx hb dX11_readAct_57 (by decide) ?_
        refine lv_iconst (v := (0 : Int32)) hx hb dX11_readAct_58 (by decide) ?_
        refine lv_iconst (v := (3 : Int32)) hx hb dX11_readAct_59 (by decide) ?_
        obtain ⟨r_26, M_25, hc60, hr⟩ := ob2_e hr
        refine xk_i (va_runV (As := [.int (0 : Int32), .int (0 : Int32), .int (3 : Int32)]) (rest := []) ⟨hx, hb, hml, hown, hts⟩ (c_X11_readNumber l D cA ad M_22 (0 : Int32) (0 : Int32) (3 : Int32) hc60) (cwV 3 hts gX11_readAct_X11_readNumber rfl rfl rfl (by decide +kernel) ⟨Nat.le_of_ble_eq_true rfl, Nat.le_of_ble_eq_true rfl⟩) (xpreV hK hW (k := 0) rfl (by decide) rfl) rfl rfl hl.1 rfl (lv_room (Nat.le_of_ble_eq_true rfl)) dX11_readAct_60 ⟨Nat.le_of_ble_eq_true rfl, Nat.le_of_ble_eq_true rfl⟩) hW (fun H locs hW => ?_)
        refine lv_if_eq (tgt := 134) hx hb dX11_readAct_63 (by decide) (fun c1 => ?_) (fun c1 => ?_)
        · have hr := br_p c1 hr
          refine lv_iconst (v := (0 : Int32)) hx hb dX11_readAct_134 (by decide) ?_
          obtain ⟨e1, e2⟩ := Prod.mk.inj (Option.some.inj hr)
          subst e1
          subst e2
          exact hj135_24 _ _ _ hW (lv_sub hl [0] rfl)
        · have hr := br_n c1 hr
          refine lv_aload_n hx hb dX11_readAct_66 rfl (lv_at hl 0 rfl) ?_
          refine lv_bipush (v := (102 : Int32)) hx hb dX11_readAct_67 (by decide) ?_
          obtain ⟨r_28, M_27, hc69, hr⟩ := ob2_e hr
          refine xk_i (va_runV (As := [.int (102 : Int32)]) (rest := []) ⟨hx, hb, hml, hown, hts⟩ (c_X11_passes l D cA ad M_25 (102 : Int32) hc69) (cwV 1 hts gX11_readAct_X11_passes rfl rfl rfl (by decide +kernel) ⟨Nat.le_of_ble_eq_true rfl, Nat.le_of_ble_eq_true rfl⟩) (xpreV hK hW (k := 0) rfl (by decide) rfl) rfl rfl hl.1 rfl (lv_room (Nat.le_of_ble_eq_true rfl)) dX11_readAct_69 ⟨Nat.le_of_ble_eq_true rfl, Nat.le_of_ble_eq_true rfl⟩) hW (fun H locs hW => ?_)
          refine lv_if_eq (tgt := 134) hx hb dX11_readAct_72 (by decide) (fun c1 => ?_) (fun c1 => ?_)
          · have hr := br_p c1 hr
            refine lv_iconst (v := (0 : Int32)) hx hb dX11_readAct_134 (by decide) ?_
            obtain ⟨e1, e2⟩ := Prod.mk.inj (Option.some.inj hr)
            subst e1
            subst e2
            exact hj135_24 _ _ _ hW (lv_sub hl [0] rfl)
          · have hr := br_n c1 hr
            refine lv_aload_n hx hb dX11_readAct_75 rfl (lv_at hl 0 rfl) ?_
            refine lv_iconst (v := (1 : Int32)) hx hb dX11_readAct_76 (by decide) ?_
            refine lv_sipush (v := (1000 : Int32)) hx hb dX11_readAct_77 (by decide) ?_
            refine lv_ldc (v := (9999999 : Int32)) hx hb hown (hts _ (wm 3 rfl)) dX11_readAct_80 ?_
            obtain ⟨r_30, M_29, hc82, hr⟩ := ob2_e hr
            refine xk_i (va_runV (As := [.int (1 : Int32), .int (1000 : Int32), .int (9999999 : Int32)]) (rest := []) ⟨hx, hb, hml, hown, hts⟩ (c_X11_readNumber l D cA ad M_27 (1 : Int32) (1000 : Int32) (9999999 : Int32) hc82) (cwV 3 hts gX11_readAct_X11_readNumber rfl rfl rfl (by decide +kernel) ⟨Nat.le_of_ble_eq_true rfl, Nat.le_of_ble_eq_true rfl⟩) (xpreV hK hW (k := 0) rfl (by decide) rfl) rfl rfl hl.1 rfl (lv_room (Nat.le_of_ble_eq_true rfl)) dX11_readAct_82 ⟨Nat.le_of_ble_eq_true rfl, Nat.le_of_ble_eq_true rfl⟩) hW (fun H locs hW => ?_)
            refine lv_if_eq (tgt := 134) hx hb dX11_readAct_85 (by decide) (fun c1 => ?_) (fun c1 => ?_)
            · have hr := br_p c1 hr
              refine lv_iconst (v := (0 : Int32)) hx hb dX11_readAct_134 (by decide) ?_
              obtain ⟨e1, e2⟩ := Prod.mk.inj (Option.some.inj hr)
              subst e1
              subst e2
              exact hj135_24 _ _ _ hW (lv_sub hl [0] rfl)
            · have hr := br_n c1 hr
              refine lv_aload_n hx hb dX11_readAct_88 rfl (lv_at hl 0 rfl) ?_
              refine lv_bipush (v := (98 : Int32)) hx hb dX11_readAct_89 (by decide) ?_
              obtain ⟨r_32, M_31, hc91, hr⟩ := ob2_e hr
              refine xk_i (va_runV (As := [.int (98 : Int32)]) (rest := []) ⟨hx, hb, hml, hown, hts⟩ (c_X11_passes l D cA ad M_29 (98 : Int32) hc91) (cwV 1 hts gX11_readAct_X11_passes rfl rfl rfl (by decide +kernel) ⟨Nat.le_of_ble_eq_true rfl, Nat.le_of_ble_eq_true rfl⟩) (xpreV hK hW (k := 0) rfl (by decide) rfl) rfl rfl hl.1 rfl (lv_room (Nat.le_of_ble_eq_true rfl)) dX11_readAct_91 ⟨Nat.le_of_ble_eq_true rfl, Nat.le_of_ble_eq_true rfl⟩) hW (fun H locs hW => ?_)
              refine lv_if_eq (tgt := 134) hx hb dX11_readAct_94 (by decide) (fun c1 => ?_) (fun c1 => ?_)
              · have hr := br_p c1 hr
                refine lv_iconst (v := (0 : Int32)) hx hb dX11_readAct_134 (by decide) ?_
                obtain ⟨e1, e2⟩ := Prod.mk.inj (Option.some.inj hr)
                subst e1
                subst e2
                exact hj135_24 _ _ _ hW (lv_sub hl [0] rfl)
              · have hr := br_n c1 hr
                refine lv_aload_n hx hb dX11_readAct_97 rfl (lv_at hl 0 rfl) ?_
                refine lv_iconst (v := (2 : Int32)) hx hb dX11_readAct_98 (by decide) ?_
                refine lv_sipush (v := (1000 : Int32)) hx hb dX11_readAct_99 (by decide) ?_
                refine lv_ldc (v := (9999999 : Int32)) hx hb hown (hts _ (wm 3 rfl)) dX11_readAct_102 ?_
                obtain ⟨r_34, M_33, hc104, hr⟩ := ob2_e hr
                refine xk_i (va_runV (As := [.int (2 : Int32), .int (1000 : Int32), .int (9999999 : Int32)]) (rest := []) ⟨hx, hb, hml, hown, hts⟩ (c_X11_readNumber l D cA ad M_31 (2 : Int32) (1000 : Int32) (9999999 : Int32) hc104) (cwV 3 hts gX11_readAct_X11_readNumber rfl rfl rfl (by decide +kernel) ⟨Nat.le_of_ble_eq_true rfl, Nat.le_of_ble_eq_true rfl⟩) (xpreV hK hW (k := 0) rfl (by decide) rfl) rfl rfl hl.1 rfl (lv_room (Nat.le_of_ble_eq_true rfl)) dX11_readAct_104 ⟨Nat.le_of_ble_eq_true rfl, Nat.le_of_ble_eq_true rfl⟩) hW (fun H locs hW => ?_)
                refine lv_if_eq (tgt := 134) hx hb dX11_readAct_107 (by decide) (fun c1 => ?_) (fun c1 => ?_)
                · have hr := br_p c1 hr
                  refine lv_iconst (v := (0 : Int32)) hx hb dX11_readAct_134 (by decide) ?_
                  obtain ⟨e1, e2⟩ := Prod.mk.inj (Option.some.inj hr)
                  subst e1
                  subst e2
                  exact hj135_24 _ _ _ hW (lv_sub hl [0] rfl)
                · have hr := br_n c1 hr
                  refine lv_aload_n hx hb dX11_readAct_110 rfl (lv_at hl 0 rfl) ?_
                  refine lv_bipush (v := (113 : Int32)) hx hb dX11_readAct_111 (by decide) ?_
                  obtain ⟨r_36, M_35, hc113, hr⟩ := ob2_e hr
                  refine xk_i (va_runV (As := [.int (113 : Int32)]) (rest := []) ⟨hx, hb, hml, hown, hts⟩ (c_X11_passes l D cA ad M_33 (113 : Int32) hc113) (cwV 1 hts gX11_readAct_X11_passes rfl rfl rfl (by decide +kernel) ⟨Nat.le_of_ble_eq_true rfl, Nat.le_of_ble_eq_true rfl⟩) (xpreV hK hW (k := 0) rfl (by decide) rfl) rfl rfl hl.1 rfl (lv_room (Nat.le_of_ble_eq_true rfl)) dX11_readAct_113 ⟨Nat.le_of_ble_eq_true rfl, Nat.le_of_ble_eq_true rfl⟩) hW (fun H locs hW => ?_)
                  refine lv_if_eq (tgt := 134) hx hb dX11_readAct_116 (by decide) (fun c1 => ?_) (fun c1 => ?_)
                  · have hr := br_p c1 hr
                    refine lv_iconst (v := (0 : Int32)) hx hb dX11_readAct_134 (by decide) ?_
                    obtain ⟨e1, e2⟩ := Prod.mk.inj (Option.some.inj hr)
                    subst e1
                    subst e2
                    exact hj135_24 _ _ _ hW (lv_sub hl [0] rfl)
                  · have hr := br_n c1 hr
                    refine lv_aload_n hx hb dX11_readAct_119 rfl (lv_at hl 0 rfl) ?_
                    refine lv_iconst (v := (3 : Int32)) hx hb dX11_readAct_120 (by decide) ?_
                    refine lv_iconst (v := (0 : Int32)) hx hb dX11_readAct_121 (by decide) ?_
                    refine lv_bipush (v := (100 : Int32)) hx hb dX11_readAct_122 (by decide) ?_
                    obtain ⟨r_38, M_37, hc124, hr⟩ := ob2_e hr
                    refine xk_i (va_runV (As := [.int (3 : Int32), .int (0 : Int32), .int (100 : Int32)]) (rest := []) ⟨hx, hb, hml, hown, hts⟩ (c_X11_readNumber l D cA ad M_35 (3 : Int32) (0 : Int32) (100 : Int32) hc124) (cwV 3 hts gX11_readAct_X11_readNumber rfl rfl rfl (by decide +kernel) ⟨Nat.le_of_ble_eq_true rfl, Nat.le_of_ble_eq_true rfl⟩) (xpreV hK hW (k := 0) rfl (by decide) rfl) rfl rfl hl.1 rfl (lv_room (Nat.le_of_ble_eq_true rfl)) dX11_readAct_124 ⟨Nat.le_of_ble_eq_true rfl, Nat.le_of_ble_eq_true rfl⟩) hW (fun H locs hW => ?_)
                    refine lv_if_eq (tgt := 134) hx hb dX11_readAct_127 (by decide) (fun c1 => ?_) (fun c1 => ?_)
                    · have hr := br_p c1 hr
                      refine lv_iconst (v := (0 : Int32)) hx hb dX11_readAct_134 (by decide) ?_
                      obtain ⟨e1, e2⟩ := Prod.mk.inj (Option.some.inj hr)
                      subst e1
                      subst e2
                      exact hj135_24 _ _ _ hW (lv_sub hl [0] rfl)
                    · have hr := br_n c1 hr
                      refine lv_iconst (v := (1 : Int32)) hx hb dX11_readAct_130 (by decide) ?_
                      refine lv_goto (tgt := 135) hx hb dX11_readAct_131 (by decide) ?_
                      obtain ⟨e1, e2⟩ := Prod.mk.inj (Option.some.inj hr)
                      subst e1
                      subst e2
                      exact hj135_24 _ _ _ hW (lv_sub hl [0] rfl)
    · have hr := br_n c1 hr
      refine lv_aload_n hx hb dX11_readAct_26 rfl (lv_at hl 0 rfl) ?_
      refine g11_22 hx hb hts hi11 hown hK hW (k := 0) rfl (hts _ (wm 1 rfl)) dX11_readAct_27 ?_
      refine lv_bipush (v := (119 : Int32)) hx hb dX11_readAct_30 (by decide) ?_
      refine lv_icmp_eq (tgt := 37) hx hb dX11_readAct_32 (by decide) (fun c1 => ?_) (fun c1 => ?_)
      · have hr := br_p c1 hr
        refine lv_aload_n hx hb dX11_readAct_37 rfl (lv_at hl 0 rfl) ?_
        refine lv_dup hx hb dX11_readAct_38 rfl ?_
        refine g11_21 hx hb hts hi11 hown hK hW (k := 0) rfl (hts _ (wm 2 rfl)) dX11_readAct_39 ?_
        refine lv_iconst (v := (1 : Int32)) hx hb dX11_readAct_42 (by decide) ?_
        refine lv_iadd hx hb dX11_readAct_43 ?_
        obtain ⟨M_41, eM_41, hr⟩ := lt1_e hr
        refine p11_21 hx hb hts hi11 hown hK hW (k := 0) rfl (hts _ (wm 2 rfl)) dX11_readAct_44 (fun H locs hW => ?_)
        rw [← eM_41] at hW
        refine lv_aload_n hx hb dX11_readAct_47 rfl (lv_at hl 0 rfl) ?_
        refine g11_22 hx hb hts hi11 hown hK hW (k := 0) rfl (hts _ (wm 1 rfl)) dX11_readAct_48 ?_
        refine lv_bipush (v := (115 : Int32)) hx hb dX11_readAct_51 (by decide) ?_
        obtain ⟨y_42, M_43, hr, hr3⟩ := ob2_e hr
        have hj135_43 : ∀ (H : Heap) (locs : List Loc) (ls : Array Slot), Xw D false cA ad M_43 (AX false ad) s.heap H locs → lv_has ls 2 [(0, .ref (ad 0))] → W p l e (headSpec wsX11_readAct { frames := 2, cells := 0, slots := 0, locals := 47 }).room s m args below meth c H locs 0 0 (MQ below (QiX false D false cA ad r M') args s 0 0 (AX false ad)) (F0 m 135 ls [.int y_42]) := by
          intro H locs ls hW hl
          have hr := hr3
          refine lv_istore_n (lv' := [(1, .int y_42), (0, .ref (ad 0))]) hx hb dX11_readAct_135 rfl hl (by decide) rfl (fun ls hl => ?_)
          refine lv_iload_n hx hb dX11_readAct_136 rfl (lv_at hl 0 rfl) ?_
          refine lv_if_eq (tgt := 153) hx hb dX11_readAct_137 (by decide) (fun c1 => ?_) (fun c1 => ?_)
          · have hr := br_p c1 hr
            refine lv_iconst (v := (0 : Int32)) hx hb dX11_readAct_153 (by decide) ?_
            obtain ⟨e1, e2⟩ := Prod.mk.inj (Option.some.inj hr)
            rw [← e1, ← e2]
            exact xzret hx hb hr0 hlocks hW adR_rf (by decide) dX11_readAct_154
          · have hr := br_n c1 hr
            refine lv_aload_n hx hb dX11_readAct_140 rfl (lv_at hl 1 rfl) ?_
            refine lv_bipush (v := (59 : Int32)) hx hb dX11_readAct_141 (by decide) ?_
            obtain ⟨r_59, M_58, hc143, hr⟩ := ob2_e hr
            refine xk_i (va_runV (As := [.int (59 : Int32)]) (rest := []) ⟨hx, hb, hml, hown, hts⟩ (c_X11_passes l D cA ad M_43 (59 : Int32) hc143) (cwV 1 hts gX11_readAct_X11_passes rfl rfl rfl (by decide +kernel) ⟨Nat.le_of_ble_eq_true rfl, Nat.le_of_ble_eq_true rfl⟩) (xpreV hK hW (k := 0) rfl (by decide) rfl) rfl rfl hl.1 rfl (lv_room (Nat.le_of_ble_eq_true rfl)) dX11_readAct_143 ⟨Nat.le_of_ble_eq_true rfl, Nat.le_of_ble_eq_true rfl⟩) hW (fun H locs hW => ?_)
            refine lv_if_eq (tgt := 153) hx hb dX11_readAct_146 (by decide) (fun c1 => ?_) (fun c1 => ?_)
            · have hr := br_p c1 hr
              refine lv_iconst (v := (0 : Int32)) hx hb dX11_readAct_153 (by decide) ?_
              obtain ⟨e1, e2⟩ := Prod.mk.inj (Option.some.inj hr)
              rw [← e1, ← e2]
              exact xzret hx hb hr0 hlocks hW adR_rf (by decide) dX11_readAct_154
            · have hr := br_n c1 hr
              refine lv_iconst (v := (1 : Int32)) hx hb dX11_readAct_149 (by decide) ?_
              refine lv_goto (tgt := 154) hx hb dX11_readAct_150 (by decide) ?_
              obtain ⟨e1, e2⟩ := Prod.mk.inj (Option.some.inj hr)
              rw [← e1, ← e2]
              exact xzret hx hb hr0 hlocks hW adR_rf (by decide) dX11_readAct_154
        clear hr3
        refine lv_icmp_ne (tgt := 130) hx hb dX11_readAct_53 (by decide) (fun c1 => ?_) (fun c1 => ?_)
        · have hr := br_n c1 hr
          refine lv_iconst (v := (1 : Int32)) hx hb dX11_readAct_130 (by decide) ?_
          refine lv_goto (tgt := 135) hx hb dX11_readAct_131 (by decide) ?_
          obtain ⟨e1, e2⟩ := Prod.mk.inj (Option.some.inj hr)
          subst e1
          subst e2
          exact hj135_43 _ _ _ hW (lv_sub hl [0] rfl)
        · have hr := br_p c1 hr
          refine lv_aload_n hx hb dX11_readAct_56 rfl (lv_at hl 0 rfl) ?_
          refine lv_iconst (v := (0 : Int32)) hx hb dX11_readAct_57 (by decide) ?_
          refine lv_iconst (v := (0 : Int32)) hx hb dX11_readAct_58 (by decide) ?_
          refine lv_iconst (v := (3 : Int32)) hx hb dX11_readAct_59 (by decide) ?_
          obtain ⟨r_45, M_44, hc60, hr⟩ := ob2_e hr
          refine xk_i (va_runV (As := [.int (0 : Int32), .int (0 : Int32), .int (3 : Int32)]) (rest := []) ⟨hx, hb, hml, hown, hts⟩ (c_X11_readNumber l D cA ad M_41 (0 : Int32) (0 : Int32) (3 : Int32) hc60) (cwV 3 hts gX11_readAct_X11_readNumber rfl rfl rfl (by decide +kernel) ⟨Nat.le_of_ble_eq_true rfl, Nat.le_of_ble_eq_true rfl⟩) (xpreV hK hW (k := 0) rfl (by decide) rfl) rfl rfl hl.1 rfl (lv_room (Nat.le_of_ble_eq_true rfl)) dX11_readAct_60 ⟨Nat.le_of_ble_eq_true rfl, Nat.le_of_ble_eq_true rfl⟩) hW (fun H locs hW => ?_)
          refine lv_if_eq (tgt := 134) hx hb dX11_readAct_63 (by decide) (fun c1 => ?_) (fun c1 => ?_)
          · have hr := br_p c1 hr
            refine lv_iconst (v := (0 : Int32)) hx hb dX11_readAct_134 (by decide) ?_
            obtain ⟨e1, e2⟩ := Prod.mk.inj (Option.some.inj hr)
            subst e1
            subst e2
            exact hj135_43 _ _ _ hW (lv_sub hl [0] rfl)
          · have hr := br_n c1 hr
            refine lv_aload_n hx hb dX11_readAct_66 rfl (lv_at hl 0 rfl) ?_
            refine lv_bipush (v := (102 : Int32)) hx hb dX11_readAct_67 (by decide) ?_
            obtain ⟨r_47, M_46, hc69, hr⟩ := ob2_e hr
            refine xk_i (va_runV (As := [.int (102 : Int32)]) (rest := []) ⟨hx, hb, hml, hown, hts⟩ (c_X11_passes l D cA ad M_44 (102 : Int32) hc69) (cwV 1 hts gX11_readAct_X11_passes rfl rfl rfl (by decide +kernel) ⟨Nat.le_of_ble_eq_true rfl, Nat.le_of_ble_eq_true rfl⟩) (xpreV hK hW (k := 0) rfl (by decide) rfl) rfl rfl hl.1 rfl (lv_room (Nat.le_of_ble_eq_true rfl)) dX11_readAct_69 ⟨Nat.le_of_ble_eq_true rfl, Nat.le_of_ble_eq_true rfl⟩) hW (fun H locs hW => ?_)
            refine lv_if_eq (tgt := 134) hx hb dX11_readAct_72 (by decide) (fun c1 => ?_) (fun c1 => ?_)
            · have hr := br_p c1 hr
              refine lv_iconst (v := (0 : Int32)) hx hb dX11_readAct_134 (by decide) ?_
              obtain ⟨e1, e2⟩ := Prod.mk.inj (Option.some.inj hr)
              subst e1
              subst e2
              exact hj135_43 _ _ _ hW (lv_sub hl [0] rfl)
            · have hr := br_n c1 hr
              refine lv_aload_n hx hb dX11_readAct_75 rfl (lv_at hl 0 rfl) ?_
              refine lv_iconst (v := (1 : Int32)) hx hb dX11_readAct_76 (by decide) ?_
              refine lv_sipush (v := (1000 : Int32)) hx hb dX11_readAct_77 (by decide) ?_
              refine lv_ldc (v := (9999999 : Int32)) hx hb hown (hts _ (wm 3 rfl)) dX11_readAct_80 ?_
              obtain ⟨r_49, M_48, hc82, hr⟩ := ob2_e hr
              refine xk_i (va_runV (As := [.int (1 : Int32), .int (1000 : Int32), .int (9999999 : Int32)]) (rest := []) ⟨hx, hb, hml, hown, hts⟩ (c_X11_readNumber l D cA ad M_46 (1 : Int32) (1000 : Int32) (9999999 : Int32) hc82) (cwV 3 hts gX11_readAct_X11_readNumber rfl rfl rfl (by decide +kernel) ⟨Nat.le_of_ble_eq_true rfl, Nat.le_of_ble_eq_true rfl⟩) (xpreV hK hW (k := 0) rfl (by decide) rfl) rfl rfl hl.1 rfl (lv_room (Nat.le_of_ble_eq_true rfl)) dX11_readAct_82 ⟨Nat.le_of_ble_eq_true rfl, Nat.le_of_ble_eq_true rfl⟩) hW (fun H locs hW => ?_)
              refine lv_if_eq (tgt := 134) hx hb dX11_readAct_85 (by decide) (fun c1 => ?_) (fun c1 => ?_)
              · have hr := br_p c1 hr
                refine lv_iconst (v := (0 : Int32)) hx hb dX11_readAct_134 (by decide) ?_
                obtain ⟨e1, e2⟩ := Prod.mk.inj (Option.some.inj hr)
                subst e1
                subst e2
                exact hj135_43 _ _ _ hW (lv_sub hl [0] rfl)
              · have hr := br_n c1 hr
                refine lv_aload_n hx hb dX11_readAct_88 rfl (lv_at hl 0 rfl) ?_
                refine lv_bipush (v := (98 : Int32)) hx hb dX11_readAct_89 (by decide) ?_
                obtain ⟨r_51, M_50, hc91, hr⟩ := ob2_e hr
                refine xk_i (va_runV (As := [.int (98 : Int32)]) (rest := []) ⟨hx, hb, hml, hown, hts⟩ (c_X11_passes l D cA ad M_48 (98 : Int32) hc91) (cwV 1 hts gX11_readAct_X11_passes rfl rfl rfl (by decide +kernel) ⟨Nat.le_of_ble_eq_true rfl, Nat.le_of_ble_eq_true rfl⟩) (xpreV hK hW (k := 0) rfl (by decide) rfl) rfl rfl hl.1 rfl (lv_room (Nat.le_of_ble_eq_true rfl)) dX11_readAct_91 ⟨Nat.le_of_ble_eq_true rfl, Nat.le_of_ble_eq_true rfl⟩) hW (fun H locs hW => ?_)
                refine lv_if_eq (tgt := 134) hx hb dX11_readAct_94 (by decide) (fun c1 => ?_) (fun c1 => ?_)
                · have hr := br_p c1 hr
                  refine lv_iconst (v := (0 : Int32)) hx hb dX11_readAct_134 (by decide) ?_
                  obtain ⟨e1, e2⟩ := Prod.mk.inj (Option.some.inj hr)
                  subst e1
                  subst e2
                  exact hj135_43 _ _ _ hW (lv_sub hl [0] rfl)
                · have hr := br_n c1 hr
                  refine lv_aload_n hx hb dX11_readAct_97 rfl (lv_at hl 0 rfl) ?_
                  refine lv_iconst (v := (2 : Int32)) hx hb dX11_readAct_98 (by decide) ?_
                  refine lv_sipush (v := (1000 : Int32)) hx hb dX11_readAct_99 (by decide) ?_
                  refine lv_ldc (v := (9999999 : Int32)) hx hb hown (hts _ (wm 3 rfl)) dX11_readAct_102 ?_
                  obtain ⟨r_53, M_52, hc104, hr⟩ := ob2_e hr
                  refine xk_i (va_runV (As := [.int (2 : Int32), .int (1000 : Int32), .int (9999999 : Int32)]) (rest := []) ⟨hx, hb, hml, hown, hts⟩ (c_X11_readNumber l D cA ad M_50 (2 : Int32) (1000 : Int32) (9999999 : Int32) hc104) (cwV 3 hts gX11_readAct_X11_readNumber rfl rfl rfl (by decide +kernel) ⟨Nat.le_of_ble_eq_true rfl, Nat.le_of_ble_eq_true rfl⟩) (xpreV hK hW (k := 0) rfl (by decide) rfl) rfl rfl hl.1 rfl (lv_room (Nat.le_of_ble_eq_true rfl)) dX11_readAct_104 ⟨Nat.le_of_ble_eq_true rfl, Nat.le_of_ble_eq_true rfl⟩) hW (fun H locs hW => ?_)
                  refine lv_if_eq (tgt := 134) hx hb dX11_readAct_107 (by decide) (fun c1 => ?_) (fun c1 => ?_)
                  · have hr := br_p c1 hr
                    refine lv_iconst (v := (0 : Int32)) hx hb dX11_readAct_134 (by decide) ?_
                    obtain ⟨e1, e2⟩ := Prod.mk.inj (Option.some.inj hr)
                    subst e1
                    subst e2
                    exact hj135_43 _ _ _ hW (lv_sub hl [0] rfl)
                  · have hr := br_n c1 hr
                    refine lv_aload_n hx hb dX11_readAct_110 rfl (lv_at hl 0 rfl) ?_
                    refine lv_bipush (v := (113 : Int32)) hx hb dX11_readAct_111 (by decide) ?_
                    obtain ⟨r_55, M_54, hc113, hr⟩ := ob2_e hr
                    refine xk_i (va_runV (As := [.int (113 : Int32)]) (rest := []) ⟨hx, hb, hml, hown, hts⟩ (c_X11_passes l D cA ad M_52 (113 : Int32) hc113) (cwV 1 hts gX11_readAct_X11_passes rfl rfl rfl (by decide +kernel) ⟨Nat.le_of_ble_eq_true rfl, Nat.le_of_ble_eq_true rfl⟩) (xpreV hK hW (k := 0) rfl (by decide) rfl) rfl rfl hl.1 rfl (lv_room (Nat.le_of_ble_eq_true rfl)) dX11_readAct_113 ⟨Nat.le_of_ble_eq_true rfl, Nat.le_of_ble_eq_true rfl⟩) hW (fun H locs hW => ?_)
                    refine lv_if_eq (tgt := 134) hx hb dX11_readAct_116 (by decide) (fun c1 => ?_) (fun c1 => ?_)
                    · have hr := br_p c1 hr
                      refine lv_iconst (v := (0 : Int32)) hx hb dX11_readAct_134 (by decide) ?_
                      obtain ⟨e1, e2⟩ := Prod.mk.inj (Option.some.inj hr)
                      subst e1
                      subst e2
                      exact hj135_43 _ _ _ hW (lv_sub hl [0] rfl)
                    · have hr := br_n c1 hr
                      refine lv_aload_n hx hb dX11_readAct_119 rfl (lv_at hl 0 rfl) ?_
                      refine lv_iconst (v := (3 : Int32)) hx hb dX11_readAct_120 (by decide) ?_
                      refine lv_iconst (v := (0 : Int32)) hx hb dX11_readAct_121 (by decide) ?_
                      refine lv_bipush (v := (100 : Int32)) hx hb dX11_readAct_122 (by decide) ?_
                      obtain ⟨r_57, M_56, hc124, hr⟩ := ob2_e hr
                      refine xk_i (va_runV (As := [.int (3 : Int32), .int (0 : Int32), .int (100 : Int32)]) (rest := []) ⟨hx, hb, hml, hown, hts⟩ (c_X11_readNumber l D cA ad M_54 (3 : Int32) (0 : Int32) (100 : Int32) hc124) (cwV 3 hts gX11_readAct_X11_readNumber rfl rfl rfl (by decide +kernel) ⟨Nat.le_of_ble_eq_true rfl, Nat.le_of_ble_eq_true rfl⟩) (xpreV hK hW (k := 0) rfl (by decide) rfl) rfl rfl hl.1 rfl (lv_room (Nat.le_of_ble_eq_true rfl)) dX11_readAct_124 ⟨Nat.le_of_ble_eq_true rfl, Nat.le_of_ble_eq_true rfl⟩) hW (fun H locs hW => ?_)
                      refine lv_if_eq (tgt := 134) hx hb dX11_readAct_127 (by decide) (fun c1 => ?_) (fun c1 => ?_)
                      · have hr := br_p c1 hr
                        refine lv_iconst (v := (0 : Int32)) hx hb dX11_readAct_134 (by decide) ?_
                        obtain ⟨e1, e2⟩ := Prod.mk.inj (Option.some.inj hr)
                        subst e1
                        subst e2
                        exact hj135_43 _ _ _ hW (lv_sub hl [0] rfl)
                      · have hr := br_n c1 hr
                        refine lv_iconst (v := (1 : Int32)) hx hb dX11_readAct_130 (by decide) ?_
                        refine lv_goto (tgt := 135) hx hb dX11_readAct_131 (by decide) ?_
                        obtain ⟨e1, e2⟩ := Prod.mk.inj (Option.some.inj hr)
                        subst e1
                        subst e2
                        exact hj135_43 _ _ _ hW (lv_sub hl [0] rfl)
      · have hr := br_n c1 hr
        refine lv_iconst (v := (0 : Int32)) hx hb dX11_readAct_35 (by decide) ?_
        obtain ⟨e1, e2⟩ := Prod.mk.inj (Option.some.inj hr)
        rw [← e1, ← e2]
        exact xzret hx hb hr0 hlocks hW adR_rf (by decide) dX11_readAct_36

set_option maxHeartbeats 4000000 in
set_option maxRecDepth 100000 in
theorem c_X11_faultOf (l : Launch) (D : va_G) (cA : Nat → ClassId) (ad : Nat → Nat) (M : Mm) {r : Int32} {M' : Mm} (hr : f_X11_faultOf M = some (r, M')) : Met l yX11_faultOf wsX11_faultOf ({ frames := 3, cells := 0, slots := 0, locals := 68 }) (PcX D false cA ad M [.ref (ad 0)]) (QiX false D false cA ad r M') 0 0 (AX false ad) := by
  refine Met.ofW (cc := cX11_faultOf) (maxL := 1) (ret := (some .int)) (by decide) rfl ?_
  intro p e s m args below meth c s₁ B hml hv
  obtain ⟨rfl, hP0, hK⟩ := hv
  have hx := B.exec
  have hb := B.bytes
  have hr0 := B.returns
  have hts := atoms_spec (ws := wsX11_faultOf) B.pre
  have hown : s.vm.findClass RX11 = some m.cls := findClass_of_methodNamed B.named
  have hlocks := B.notSynchronized
  have hW := xstart hP0
  have hi11 : ∀ w ∈ wsX110, w ∈ wsX11_faultOf := fun w h => List.mem_cons_of_mem _ (List.mem_append_right _ h)
  have hl := lv_entry ([.ref (ad 0)]) (n := 1) (Nat.le_of_ble_eq_true rfl)
  rw [lg_entry_eq]
  generalize (lg_sl ([.ref (ad 0)]) ++ List.replicate (1 - (lg_sl ([.ref (ad 0)])).length) Slot.unset).toArray = ls at hl ⊢
  have hl : lv_has ls 1 [(0, .ref (ad 0))] := hl
  clear hP0
  unfold f_X11_faultOf at hr
  refine lv_aload_n hx hb dX11_faultOf_0 rfl (lv_at hl 0 rfl) ?_
  refine lv_iconst (v := (0 : Int32)) hx hb dX11_faultOf_1 (by decide) ?_
  obtain ⟨M_1, eM_1, hr⟩ := lt1_e hr
  refine p11_21 hx hb hts hi11 hown hK hW (k := 0) rfl (hts _ (wm 1 rfl)) dX11_faultOf_2 (fun H locs hW => ?_)
  rw [← eM_1] at hW
  have hL5_1 : ∀ (n : Nat) (M_2 : Mm) (H : Heap) (locs : List Loc) (ls : Array Slot), Xw D false cA ad M_2 (AX false ad) s.heap H locs → lv_has ls 1 [(0, .ref (ad 0))] → f_X11_faultOf_L5 n M_2 = some (r, M') → W p l e (headSpec wsX11_faultOf { frames := 3, cells := 0, slots := 0, locals := 68 }).room s m args below meth c H locs 0 0 (MQ below (QiX false D false cA ad r M') args s 0 0 (AX false ad)) (F0 m 5 ls []) := by
    intro n
    induction n with
    | zero =>
      intro M_2 H locs ls hW hl hr
      exact absurd hr (by simp [f_X11_faultOf_L5])
    | succ n ih =>
      intro M_2 H locs ls hW hl hr
      rw [f_X11_faultOf_L5] at hr
      refine lv_aload_n hx hb dX11_faultOf_5 rfl (lv_at hl 0 rfl) ?_
      refine g11_21 hx hb hts hi11 hown hK hW (k := 0) rfl (hts _ (wm 1 rfl)) dX11_faultOf_6 ?_
      refine lv_aload_n hx hb dX11_faultOf_9 rfl (lv_at hl 0 rfl) ?_
      refine g11_9 hx hb hts hi11 hown hK hW (k := 0) rfl (hts _ (wm 2 rfl)) dX11_faultOf_10 ?_
      refine lv_icmp_ge (tgt := 28) hx hb dX11_faultOf_13 (by decide) (fun c1 => ?_) (fun c1 => ?_)
      · have hr := br_p c1 hr
        refine lv_iconst (v := (-1 : Int32)) hx hb dX11_faultOf_28 (by decide) ?_
        obtain ⟨e1, e2⟩ := Prod.mk.inj (Option.some.inj hr)
        rw [← e1, ← e2]
        exact xiret hx hb hr0 hlocks hW adR_rf dX11_faultOf_29
      · have hr := br_n c1 hr
        refine lv_aload_n hx hb dX11_faultOf_16 rfl (lv_at hl 0 rfl) ?_
        obtain ⟨r_4, M_3, hc17, hr⟩ := ob2_e hr
        refine xk_i (va_runV (As := []) (rest := []) ⟨hx, hb, hml, hown, hts⟩ (c_X11_readAct l D cA ad M_2 hc17) (cwV 0 hts gX11_faultOf_X11_readAct rfl rfl rfl (by decide +kernel) ⟨Nat.le_of_ble_eq_true rfl, Nat.le_of_ble_eq_true rfl⟩) (xpreV hK hW (k := 0) rfl (by decide) rfl) rfl rfl hl.1 rfl (lv_room (Nat.le_of_ble_eq_true rfl)) dX11_faultOf_17 ⟨Nat.le_of_ble_eq_true rfl, Nat.le_of_ble_eq_true rfl⟩) hW (fun H locs hW => ?_)
        refine lv_if_ne (tgt := 5) hx hb dX11_faultOf_20 (by decide) (fun c1 => ?_) (fun c1 => ?_)
        · have hr := br_n c1 hr
          exact ih M_3 _ _ _ hW (lv_sub hl [0] rfl) hr
        · have hr := br_p c1 hr
          refine lv_aload_n hx hb dX11_faultOf_23 rfl (lv_at hl 0 rfl) ?_
          refine g11_21 hx hb hts hi11 hown hK hW (k := 0) rfl (hts _ (wm 1 rfl)) dX11_faultOf_24 ?_
          obtain ⟨e1, e2⟩ := Prod.mk.inj (Option.some.inj hr)
          rw [← e1, ← e2]
          exact xiret hx hb hr0 hlocks hW adR_rf dX11_faultOf_27
  exact hL5_1 1000 M_1 _ _ _ hW (lv_sub hl [0] rfl) hr

set_option maxHeartbeats 4000000 in
set_option maxRecDepth 100000 in
theorem c_X11_faultPosition (l : Launch) (D : va_G) (cA : Nat → ClassId) (ad : Nat → Nat) (M : Mm) {r : Int32} {M' : Mm} (hr : f_X11_faultPosition M = some (r, M')) : Met l yX11_faultPosition wsX11_faultPosition ({ frames := 4, cells := 0, slots := 0, locals := 88 }) (PcX D false cA ad M [.ref (ad 0)]) (QiX false D false cA ad r M') 0 0 (AX false ad) := by
  refine Met.ofW (cc := cX11_faultPosition) (maxL := 2) (ret := (some .int)) (by decide) rfl ?_
  intro p e s m args below meth c s₁ B hml hv
  obtain ⟨rfl, hP0, hK⟩ := hv
  have hx := B.exec
  have hb := B.bytes
  have hr0 := B.returns
  have hts := atoms_spec (ws := wsX11_faultPosition) B.pre
  have hown : s.vm.findClass RX11 = some m.cls := findClass_of_methodNamed B.named
  have hlocks := B.notSynchronized
  have hW := xstart hP0
  have hl := lv_entry ([.ref (ad 0)]) (n := 2) (Nat.le_of_ble_eq_true rfl)
  rw [lg_entry_eq]
  generalize (lg_sl ([.ref (ad 0)]) ++ List.replicate (2 - (lg_sl ([.ref (ad 0)])).length) Slot.unset).toArray = ls at hl ⊢
  have hl : lv_has ls 2 [(0, .ref (ad 0))] := hl
  clear hP0
  unfold f_X11_faultPosition at hr
  refine lv_aload_n hx hb dX11_faultPosition_0 rfl (lv_at hl 0 rfl) ?_
  obtain ⟨r_2, M_1, hc1, hr⟩ := ob2_e hr
  refine xk_i (va_runV (As := []) (rest := []) ⟨hx, hb, hml, hown, hts⟩ (c_X11_faultOf l D cA ad M hc1) (cwV 0 hts gX11_faultPosition_X11_faultOf rfl rfl rfl (by decide +kernel) ⟨Nat.le_of_ble_eq_true rfl, Nat.le_of_ble_eq_true rfl⟩) (xpreV hK hW (k := 0) rfl (by decide) rfl) rfl rfl hl.1 rfl (lv_room (Nat.le_of_ble_eq_true rfl)) dX11_faultPosition_1 ⟨Nat.le_of_ble_eq_true rfl, Nat.le_of_ble_eq_true rfl⟩) hW (fun H locs hW => ?_)
  refine lv_istore_n (lv' := [(1, .int r_2), (0, .ref (ad 0))]) hx hb dX11_faultPosition_4 rfl hl (by decide) rfl (fun ls hl => ?_)
  refine lv_iload_n hx hb dX11_faultPosition_5 rfl (lv_at hl 0 rfl) ?_
  refine lv_if_ge (tgt := 14) hx hb dX11_faultPosition_6 (by decide) (fun c1 => ?_) (fun c1 => ?_)
  · have hr := br_p c1 hr
    refine lv_iload_n hx hb dX11_faultPosition_14 rfl (lv_at hl 0 rfl) ?_
    obtain ⟨e1, e2⟩ := Prod.mk.inj (Option.some.inj hr)
    rw [← e1, ← e2]
    exact xiret hx hb hr0 hlocks hW adR_rf dX11_faultPosition_15
  · have hr := br_n c1 hr
    refine lv_ldc (v := (-2000000005 : Int32)) hx hb hown (hts _ (wm 1 rfl)) dX11_faultPosition_9 ?_
    refine lv_goto (tgt := 15) hx hb dX11_faultPosition_11 (by decide) ?_
    obtain ⟨e1, e2⟩ := Prod.mk.inj (Option.some.inj hr)
    rw [← e1, ← e2]
    exact xiret hx hb hr0 hlocks hW adR_rf dX11_faultPosition_15

set_option maxHeartbeats 4000000 in
set_option maxRecDepth 100000 in
theorem c_X11_does (l : Launch) (D : va_G) (cA : Nat → ClassId) (ad : Nat → Nat) (M : Mm) {r : Int32} {M' : Mm} (hr : f_X11_does M = some (r, M')) : Met l yX11_does wsX11_does ({ frames := 5, cells := 0, slots := 0, locals := 121 }) (PcX D false cA ad M [.ref (ad 0)]) (QiX false D false cA ad r M') 0 0 (AX false ad) := by
  refine Met.ofW (cc := cX11_does) (maxL := 2) (ret := (some .boolean)) (by decide) rfl ?_
  intro p e s m args below meth c s₁ B hml hv
  obtain ⟨rfl, hP0, hK⟩ := hv
  have hx := B.exec
  have hb := B.bytes
  have hr0 := B.returns
  have hts := atoms_spec (ws := wsX11_does) B.pre
  have hown : s.vm.findClass RX11 = some m.cls := findClass_of_methodNamed B.named
  have hlocks := B.notSynchronized
  have hW := xstart hP0
  have hi11 : ∀ w ∈ wsX110, w ∈ wsX11_does := fun w h => List.mem_cons_of_mem _ (List.mem_append_right _ h)
  have hl := lv_entry ([.ref (ad 0)]) (n := 2) (Nat.le_of_ble_eq_true rfl)
  rw [lg_entry_eq]
  generalize (lg_sl ([.ref (ad 0)]) ++ List.replicate (2 - (lg_sl ([.ref (ad 0)])).length) Slot.unset).toArray = ls at hl ⊢
  have hl : lv_has ls 2 [(0, .ref (ad 0))] := hl
  clear hP0
  unfold f_X11_does at hr
  refine lv_aload_n hx hb dX11_does_0 rfl (lv_at hl 0 rfl) ?_
  refine g11_22 hx hb hts hi11 hown hK hW (k := 0) rfl (hts _ (wm 1 rfl)) dX11_does_1 ?_
  refine lv_bipush (v := (115 : Int32)) hx hb dX11_does_4 (by decide) ?_
  refine lv_icmp_ne (tgt := 73) hx hb dX11_does_6 (by decide) (fun c1 => ?_) (fun c1 => ?_)
  · have hr := br_n c1 hr
    refine lv_aload_n hx hb dX11_does_73 rfl (lv_at hl 0 rfl) ?_
    refine g11_22 hx hb hts hi11 hown hK hW (k := 0) rfl (hts _ (wm 1 rfl)) dX11_does_74 ?_
    refine lv_bipush (v := (99 : Int32)) hx hb dX11_does_77 (by decide) ?_
    refine lv_icmp_ne (tgt := 94) hx hb dX11_does_79 (by decide) (fun c1 => ?_) (fun c1 => ?_)
    · have hr := br_n c1 hr
      refine lv_aload_n hx hb dX11_does_94 rfl (lv_at hl 0 rfl) ?_
      refine g11_22 hx hb hts hi11 hown hK hW (k := 0) rfl (hts _ (wm 1 rfl)) dX11_does_95 ?_
      refine lv_bipush (v := (99 : Int32)) hx hb dX11_does_98 (by decide) ?_
      obtain ⟨y_1, M_2, hr, hr3⟩ := ob2_e hr
      have hj114_2 : ∀ (H : Heap) (locs : List Loc) (ls : Array Slot), Xw D false cA ad M_2 (AX false ad) s.heap H locs → lv_has ls 2 [] → W p l e (headSpec wsX11_does { frames := 5, cells := 0, slots := 0, locals := 121 }).room s m args below meth c H locs 0 0 (MQ below (QiX false D false cA ad r M') args s 0 0 (AX false ad)) (F0 m 114 ls [.int y_1]) := by
        intro H locs ls hW hl
        have hr := hr3
        refine lv_istore_n (lv' := [(1, .int y_1)]) hx hb dX11_does_114 rfl hl (by decide) rfl (fun ls hl => ?_)
        refine lv_iconst (v := (1 : Int32)) hx hb dX11_does_115 (by decide) ?_
        obtain ⟨e1, e2⟩ := Prod.mk.inj (Option.some.inj hr)
        rw [← e1, ← e2]
        exact xzret hx hb hr0 hlocks hW adR_rf (by decide) dX11_does_116
      clear hr3
      refine lv_icmp_ne (tgt := 110) hx hb dX11_does_100 (by decide) (fun c1 => ?_) (fun c1 => ?_)
      · have hr := br_n c1 hr
        refine lv_aload_n hx hb dX11_does_110 rfl (lv_at hl 0 rfl) ?_
        obtain ⟨r_4, M_3, hc111, hr⟩ := ob2_e hr
        refine xk_i (va_runV (As := []) (rest := []) ⟨hx, hb, hml, hown, hts⟩ (c_X11_swaps l D cA ad M hc111) (cwV 0 hts gX11_does_X11_swaps rfl rfl rfl (by decide +kernel) ⟨Nat.le_of_ble_eq_true rfl, Nat.le_of_ble_eq_true rfl⟩) (xpreV hK hW (k := 0) rfl (by decide) rfl) rfl rfl hl.1 rfl (lv_room (Nat.le_of_ble_eq_true rfl)) dX11_does_111 ⟨Nat.le_of_ble_eq_true rfl, Nat.le_of_ble_eq_true rfl⟩) hW (fun H locs hW => ?_)
        obtain ⟨e1, e2⟩ := Prod.mk.inj (Option.some.inj hr)
        subst e1
        subst e2
        exact hj114_2 _ _ _ hW (lv_sub hl [] rfl)
      · have hr := br_p c1 hr
        refine lv_aload_n hx hb dX11_does_103 rfl (lv_at hl 0 rfl) ?_
        obtain ⟨r_6, M_5, hc104, hr⟩ := ob2_e hr
        refine xk_i (va_runV (As := []) (rest := []) ⟨hx, hb, hml, hown, hts⟩ (c_X11_closes l D cA ad M hc104) (cwV 0 hts gX11_does_X11_closes rfl rfl rfl (by decide +kernel) ⟨Nat.le_of_ble_eq_true rfl, Nat.le_of_ble_eq_true rfl⟩) (xpreV hK hW (k := 0) rfl (by decide) rfl) rfl rfl hl.1 rfl (lv_room (Nat.le_of_ble_eq_true rfl)) dX11_does_104 ⟨Nat.le_of_ble_eq_true rfl, Nat.le_of_ble_eq_true rfl⟩) hW (fun H locs hW => ?_)
        refine lv_goto (tgt := 114) hx hb dX11_does_107 (by decide) ?_
        obtain ⟨e1, e2⟩ := Prod.mk.inj (Option.some.inj hr)
        subst e1
        subst e2
        exact hj114_2 _ _ _ hW (lv_sub hl [] rfl)
    · have hr := br_p c1 hr
      refine lv_aload_n hx hb dX11_does_82 rfl (lv_at hl 0 rfl) ?_
      refine g11_0 hx hb hts hi11 hown hK hW (k := 0) rfl (hts _ (wm 3 rfl)) dX11_does_83 ?_
      refine lv_bipush (v := (64 : Int32)) hx hb dX11_does_86 (by decide) ?_
      refine xiald hx hb hK hW (k := 1) (t := 24) rfl (by decide) (by decide) rfl (n := 159) (by decide) (jx := 64) (by decide) dX11_does_88 ?_
      refine lv_if_ne (tgt := 94) hx hb dX11_does_89 (by decide) (fun c1 => ?_) (fun c1 => ?_)
      · have hr := br_n c1 hr
        refine lv_aload_n hx hb dX11_does_94 rfl (lv_at hl 0 rfl) ?_
        refine g11_22 hx hb hts hi11 hown hK hW (k := 0) rfl (hts _ (wm 1 rfl)) dX11_does_95 ?_
        refine lv_bipush (v := (99 : Int32)) hx hb dX11_does_98 (by decide) ?_
        obtain ⟨y_7, M_8, hr, hr3⟩ := ob2_e hr
        have hj114_8 : ∀ (H : Heap) (locs : List Loc) (ls : Array Slot), Xw D false cA ad M_8 (AX false ad) s.heap H locs → lv_has ls 2 [] → W p l e (headSpec wsX11_does { frames := 5, cells := 0, slots := 0, locals := 121 }).room s m args below meth c H locs 0 0 (MQ below (QiX false D false cA ad r M') args s 0 0 (AX false ad)) (F0 m 114 ls [.int y_7]) := by
          intro H locs ls hW hl
          have hr := hr3
          refine lv_istore_n (lv' := [(1, .int y_7)]) hx hb dX11_does_114 rfl hl (by decide) rfl (fun ls hl => ?_)
          refine lv_iconst (v := (1 : Int32)) hx hb dX11_does_115 (by decide) ?_
          obtain ⟨e1, e2⟩ := Prod.mk.inj (Option.some.inj hr)
          rw [← e1, ← e2]
          exact xzret hx hb hr0 hlocks hW adR_rf (by decide) dX11_does_116
        clear hr3
        refine lv_icmp_ne (tgt := 110) hx hb dX11_does_100 (by decide) (fun c1 => ?_) (fun c1 => ?_)
        · have hr := br_n c1 hr
          refine lv_aload_n hx hb dX11_does_110 rfl (lv_at hl 0 rfl) ?_
          obtain ⟨r_10, M_9, hc111, hr⟩ := ob2_e hr
          refine xk_i (va_runV (As := []) (rest := []) ⟨hx, hb, hml, hown, hts⟩ (c_X11_swaps l D cA ad M hc111) (cwV 0 hts gX11_does_X11_swaps rfl rfl rfl (by decide +kernel) ⟨Nat.le_of_ble_eq_true rfl, Nat.le_of_ble_eq_true rfl⟩) (xpreV hK hW (k := 0) rfl (by decide) rfl) rfl rfl hl.1 rfl (lv_room (Nat.le_of_ble_eq_true rfl)) dX11_does_111 ⟨Nat.le_of_ble_eq_true rfl, Nat.le_of_ble_eq_true rfl⟩) hW (fun H locs hW => ?_)
          obtain ⟨e1, e2⟩ := Prod.mk.inj (Option.some.inj hr)
          subst e1
          subst e2
          exact hj114_8 _ _ _ hW (lv_sub hl [] rfl)
        · have hr := br_p c1 hr
          refine lv_aload_n hx hb dX11_does_103 rfl (lv_at hl 0 rfl) ?_
          obtain ⟨r_12, M_11, hc104, hr⟩ := ob2_e hr
          refine xk_i (va_runV (As := []) (rest := []) ⟨hx, hb, hml, hown, hts⟩ (c_X11_closes l D cA ad M hc104) (cwV 0 hts gX11_does_X11_closes rfl rfl rfl (by decide +kernel) ⟨Nat.le_of_ble_eq_true rfl, Nat.le_of_ble_eq_true rfl⟩) (xpreV hK hW (k := 0) rfl (by decide) rfl) rfl rfl hl.1 rfl (lv_room (Nat.le_of_ble_eq_true rfl)) dX11_does_104 ⟨Nat.le_of_ble_eq_true rfl, Nat.le_of_ble_eq_true rfl⟩) hW (fun H locs hW => ?_)
          refine lv_goto (tgt := 114) hx hb dX11_does_107 (by decide) ?_
          obtain ⟨e1, e2⟩ := Prod.mk.inj (Option.some.inj hr)
          subst e1
          subst e2
          exact hj114_8 _ _ _ hW (lv_sub hl [] rfl)
      · have hr := br_p c1 hr
        refine lv_iconst (v := (0 : Int32)) hx hb dX11_does_92 (by decide) ?_
        obtain ⟨e1, e2⟩ := Prod.mk.inj (Option.some.inj hr)
        rw [← e1, ← e2]
        exact xzret hx hb hr0 hlocks hW adR_rf (by decide) dX11_does_93
  · have hr := br_p c1 hr
    refine lv_aload_n hx hb dX11_does_9 rfl (lv_at hl 0 rfl) ?_
    refine lv_aload_n hx hb dX11_does_10 rfl (lv_at hl 0 rfl) ?_
    refine g11_23 hx hb hts hi11 hown hK hW (k := 0) rfl (hts _ (wm 2 rfl)) dX11_does_11 ?_
    refine lv_iconst (v := (0 : Int32)) hx hb dX11_does_14 (by decide) ?_
    refine xiald hx hb hK hW (k := 15) (t := 20) rfl (by decide) (by decide) rfl (n := 4) (by decide) (jx := 0) (by decide) dX11_does_15 ?_
    refine lv_aload_n hx hb dX11_does_16 rfl (lv_at hl 0 rfl) ?_
    refine g11_23 hx hb hts hi11 hown hK hW (k := 0) rfl (hts _ (wm 2 rfl)) dX11_does_17 ?_
    refine lv_iconst (v := (1 : Int32)) hx hb dX11_does_20 (by decide) ?_
    refine xiald hx hb hK hW (k := 15) (t := 20) rfl (by decide) (by decide) rfl (n := 4) (by decide) (jx := 1) (by decide) dX11_does_21 ?_
    refine lv_aload_n hx hb dX11_does_22 rfl (lv_at hl 0 rfl) ?_
    refine g11_23 hx hb hts hi11 hown hK hW (k := 0) rfl (hts _ (wm 2 rfl)) dX11_does_23 ?_
    refine lv_iconst (v := (2 : Int32)) hx hb dX11_does_26 (by decide) ?_
    refine xiald hx hb hK hW (k := 15) (t := 20) rfl (by decide) (by decide) rfl (n := 4) (by decide) (jx := 2) (by decide) dX11_does_27 ?_
    refine lv_aload_n hx hb dX11_does_28 rfl (lv_at hl 0 rfl) ?_
    refine g11_23 hx hb hts hi11 hown hK hW (k := 0) rfl (hts _ (wm 2 rfl)) dX11_does_29 ?_
    refine lv_iconst (v := (3 : Int32)) hx hb dX11_does_32 (by decide) ?_
    refine xiald hx hb hK hW (k := 15) (t := 20) rfl (by decide) (by decide) rfl (n := 4) (by decide) (jx := 3) (by decide) dX11_does_33 ?_
    obtain ⟨r_13, hc34, hr⟩ := ob1_e hr
    refine xk_i (va_runV (As := [.int (gI M 15 0), .int (gI M 15 1), .int (gI M 15 2), .int (gI M 15 3)]) (rest := []) ⟨hx, hb, hml, hown, hts⟩ (c_X11_whyShot l D cA ad M (gI M 15 0) (gI M 15 1) (gI M 15 2) (gI M 15 3) hc34) (cwV 4 hts gX11_does_X11_whyShot rfl rfl rfl (by decide +kernel) ⟨Nat.le_of_ble_eq_true rfl, Nat.le_of_ble_eq_true rfl⟩) (xpreV hK hW (k := 0) rfl (by decide) rfl) rfl rfl hl.1 rfl (lv_room (Nat.le_of_ble_eq_true rfl)) dX11_does_34 ⟨Nat.le_of_ble_eq_true rfl, Nat.le_of_ble_eq_true rfl⟩) hW (fun H locs hW => ?_)
    refine lv_if_ge (tgt := 42) hx hb dX11_does_37 (by decide) (fun c1 => ?_) (fun c1 => ?_)
    · have hr := br_p c1 hr
      refine lv_aload_n hx hb dX11_does_42 rfl (lv_at hl 0 rfl) ?_
      refine lv_aload_n hx hb dX11_does_43 rfl (lv_at hl 0 rfl) ?_
      refine g11_23 hx hb hts hi11 hown hK hW (k := 0) rfl (hts _ (wm 2 rfl)) dX11_does_44 ?_
      refine lv_iconst (v := (0 : Int32)) hx hb dX11_does_47 (by decide) ?_
      refine xiald hx hb hK hW (k := 15) (t := 20) rfl (by decide) (by decide) rfl (n := 4) (by decide) (jx := 0) (by decide) dX11_does_48 ?_
      refine lv_aload_n hx hb dX11_does_49 rfl (lv_at hl 0 rfl) ?_
      refine g11_23 hx hb hts hi11 hown hK hW (k := 0) rfl (hts _ (wm 2 rfl)) dX11_does_50 ?_
      refine lv_iconst (v := (1 : Int32)) hx hb dX11_does_53 (by decide) ?_
      refine xiald hx hb hK hW (k := 15) (t := 20) rfl (by decide) (by decide) rfl (n := 4) (by decide) (jx := 1) (by decide) dX11_does_54 ?_
      refine lv_aload_n hx hb dX11_does_55 rfl (lv_at hl 0 rfl) ?_
      refine g11_23 hx hb hts hi11 hown hK hW (k := 0) rfl (hts _ (wm 2 rfl)) dX11_does_56 ?_
      refine lv_iconst (v := (2 : Int32)) hx hb dX11_does_59 (by decide) ?_
      refine xiald hx hb hK hW (k := 15) (t := 20) rfl (by decide) (by decide) rfl (n := 4) (by decide) (jx := 2) (by decide) dX11_does_60 ?_
      refine lv_aload_n hx hb dX11_does_61 rfl (lv_at hl 0 rfl) ?_
      refine g11_23 hx hb hts hi11 hown hK hW (k := 0) rfl (hts _ (wm 2 rfl)) dX11_does_62 ?_
      refine lv_iconst (v := (3 : Int32)) hx hb dX11_does_65 (by decide) ?_
      refine xiald hx hb hK hW (k := 15) (t := 20) rfl (by decide) (by decide) rfl (n := 4) (by decide) (jx := 3) (by decide) dX11_does_66 ?_
      obtain ⟨r_15, M_14, hc67, hr⟩ := ob2_e hr
      refine xk_i (va_runV (As := [.int (gI M 15 0), .int (gI M 15 1), .int (gI M 15 2), .int (gI M 15 3)]) (rest := []) ⟨hx, hb, hml, hown, hts⟩ (c_X11_shoots l D cA ad M (gI M 15 0) (gI M 15 1) (gI M 15 2) (gI M 15 3) hc67) (cwV 4 hts gX11_does_X11_shoots rfl rfl rfl (by decide +kernel) ⟨Nat.le_of_ble_eq_true rfl, Nat.le_of_ble_eq_true rfl⟩) (xpreV hK hW (k := 0) rfl (by decide) rfl) rfl rfl hl.1 rfl (lv_room (Nat.le_of_ble_eq_true rfl)) dX11_does_67 ⟨Nat.le_of_ble_eq_true rfl, Nat.le_of_ble_eq_true rfl⟩) hW (fun H locs hW => ?_)
      refine lv_istore_n (lv' := [(1, .int r_15), (0, .ref (ad 0))]) hx hb dX11_does_70 rfl hl (by decide) rfl (fun ls hl => ?_)
      refine lv_iconst (v := (1 : Int32)) hx hb dX11_does_71 (by decide) ?_
      obtain ⟨e1, e2⟩ := Prod.mk.inj (Option.some.inj hr)
      rw [← e1, ← e2]
      exact xzret hx hb hr0 hlocks hW adR_rf (by decide) dX11_does_72
    · have hr := br_n c1 hr
      refine lv_iconst (v := (0 : Int32)) hx hb dX11_does_40 (by decide) ?_
      obtain ⟨e1, e2⟩ := Prod.mk.inj (Option.some.inj hr)
      rw [← e1, ← e2]
      exact xzret hx hb hr0 hlocks hW adR_rf (by decide) dX11_does_41

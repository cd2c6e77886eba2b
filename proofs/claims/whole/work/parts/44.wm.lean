set_option maxHeartbeats 4000000 in
set_option maxRecDepth 100000 in
theorem c_X11_run (l : Launch) (D : va_G) (cA : Nat → ClassId) (ad : Nat → Nat) (M : Mm) {r : Int32} {M' : Mm} (hr : f_X11_run M = some (r, M')) : Met l yX11_run wsX11_run ({ frames := 6, cells := 0, slots := 0, locals := 142 }) (PcX D false cA ad M [.ref (ad 0)]) (QiX false D false cA ad r M') 0 0 (AX false ad) := by
  refine Met.ofW (cc := cX11_run) (maxL := 2) (ret := (some .int)) (by decide) rfl ?_
  intro p e s m args below meth c s₁ B hml hv
  obtain ⟨rfl, hP0, hK⟩ := hv
  have hx := B.exec
  have hb := B.bytes
  have hr0 := B.returns
  have hts := atoms_spec (ws := wsX11_run) B.pre
  have hown : s.vm.findClass RX11 = some m.cls := findClass_of_methodNamed B.named
  have hlocks := B.notSynchronized
  have hW := xstart hP0
  have hi11 : ∀ w ∈ wsX110, w ∈ wsX11_run := fun w h => List.mem_cons_of_mem _ (List.mem_append_right _ h)
  have hl := lv_entry ([.ref (ad 0)]) (n := 2) (Nat.le_of_ble_eq_true rfl)
  rw [lg_entry_eq]
  generalize (lg_sl ([.ref (ad 0)]) ++ List.replicate (2 - (lg_sl ([.ref (ad 0)])).length) Slot.unset).toArray = ls at hl ⊢
  have hl : lv_has ls 2 [(0, .ref (ad 0))] := hl
  clear hP0
  unfold f_X11_run at hr
  refine lv_aload_n hx hb dX11_run_0 rfl (lv_at hl 0 rfl) ?_
  obtain ⟨r_2, M_1, hc1, hr⟩ := ob2_e hr
  refine xk_i (va_runV (As := []) (rest := []) ⟨hx, hb, hml, hown, hts⟩ (c_X11_faultOf l D cA ad M hc1) (cwV 0 hts gX11_run_X11_faultOf rfl rfl rfl (by decide +kernel) ⟨Nat.le_of_ble_eq_true rfl, Nat.le_of_ble_eq_true rfl⟩) (xpreV hK hW (k := 0) rfl (by decide) rfl) rfl rfl hl.1 rfl (lv_room (Nat.le_of_ble_eq_true rfl)) dX11_run_1 ⟨Nat.le_of_ble_eq_true rfl, Nat.le_of_ble_eq_true rfl⟩) hW (fun H locs hW => ?_)
  refine lv_if_lt (tgt := 10) hx hb dX11_run_4 (by decide) (fun c1 => ?_) (fun c1 => ?_)
  · have hr := br_p c1 hr
    refine lv_aload_n hx hb dX11_run_10 rfl (lv_at hl 0 rfl) ?_
    obtain ⟨M_3, hc11, hr⟩ := ob1_e hr
    refine xk_v (va_runV (As := []) (rest := []) ⟨hx, hb, hml, hown, hts⟩ (c_X11_records l D cA ad M_1 hc11) (cwV 0 hts gX11_run_X11_records rfl rfl rfl (by decide +kernel) ⟨Nat.le_of_ble_eq_true rfl, Nat.le_of_ble_eq_true rfl⟩) (xpreV hK hW (k := 0) rfl (by decide) rfl) rfl rfl hl.1 rfl (lv_room (Nat.le_of_ble_eq_true rfl)) dX11_run_11 ⟨Nat.le_of_ble_eq_true rfl, Nat.le_of_ble_eq_true rfl⟩) hW (fun H locs hW => ?_)
    refine lv_aload_n hx hb dX11_run_14 rfl (lv_at hl 0 rfl) ?_
    refine lv_iconst (v := (0 : Int32)) hx hb dX11_run_15 (by decide) ?_
    obtain ⟨M_4, eM_4, hr⟩ := lt1_e hr
    refine p11_21 hx hb hts hi11 hown hK hW (k := 0) rfl (hts _ (wm 2 rfl)) dX11_run_16 (fun H locs hW => ?_)
    rw [← eM_4] at hW
    refine lv_iconst (v := (0 : Int32)) hx hb dX11_run_19 (by decide) ?_
    refine lv_istore_n (lv' := [(1, .int (0 : Int32)), (0, .ref (ad 0))]) hx hb dX11_run_20 rfl hl (by decide) rfl (fun ls hl => ?_)
    have hL21_1 : ∀ (n : Nat) (x1_5 : Int32) (M_6 : Mm) (H : Heap) (locs : List Loc) (ls : Array Slot) (x1_7 : Int32) (M_8 : Mm), Xw D false cA ad M_6 (AX false ad) s.heap H locs → lv_has ls 2 [(0, .ref (ad 0)), (1, .int x1_5)] → f_X11_run_L21 n x1_5 M_6 = some (x1_7, M_8) → (∀ (H : Heap) (locs : List Loc) (ls : Array Slot), Xw D false cA ad M_8 (AX false ad) s.heap H locs → lv_has ls 2 [(1, .int x1_7)] → W p l e (headSpec wsX11_run { frames := 6, cells := 0, slots := 0, locals := 142 }).room s m args below meth c H locs 0 0 (MQ below (QiX false D false cA ad r M') args s 0 0 (AX false ad)) (F0 m 52 ls [])) → W p l e (headSpec wsX11_run { frames := 6, cells := 0, slots := 0, locals := 142 }).room s m args below meth c H locs 0 0 (MQ below (QiX false D false cA ad r M') args s 0 0 (AX false ad)) (F0 m 21 ls []) := by
      intro n
      induction n with
      | zero =>
        intro x1_5 M_6 H locs ls x1_7 M_8 hW hl hr hk
        exact absurd hr (by simp [f_X11_run_L21])
      | succ n ih =>
        intro x1_5 M_6 H locs ls x1_7 M_8 hW hl hr hk
        rw [f_X11_run_L21] at hr
        refine lv_aload_n hx hb dX11_run_21 rfl (lv_at hl 0 rfl) ?_
        refine g11_21 hx hb hts hi11 hown hK hW (k := 0) rfl (hts _ (wm 2 rfl)) dX11_run_22 ?_
        refine lv_aload_n hx hb dX11_run_25 rfl (lv_at hl 0 rfl) ?_
        refine g11_9 hx hb hts hi11 hown hK hW (k := 0) rfl (hts _ (wm 3 rfl)) dX11_run_26 ?_
        refine lv_icmp_ge (tgt := 52) hx hb dX11_run_29 (by decide) (fun c1 => ?_) (fun c1 => ?_)
        · have hr := br_p c1 hr
          obtain ⟨e1, e2⟩ := Prod.mk.inj (Option.some.inj hr)
          subst e1
          subst e2
          exact hk _ _ _ hW (lv_sub hl [1] rfl)
        · have hr := br_n c1 hr
          refine lv_aload_n hx hb dX11_run_32 rfl (lv_at hl 0 rfl) ?_
          obtain ⟨r_10, M_9, hc33, hr⟩ := ob2_e hr
          refine xk_i (va_runV (As := []) (rest := []) ⟨hx, hb, hml, hown, hts⟩ (c_X11_readAct l D cA ad M_6 hc33) (cwV 0 hts gX11_run_X11_readAct rfl rfl rfl (by decide +kernel) ⟨Nat.le_of_ble_eq_true rfl, Nat.le_of_ble_eq_true rfl⟩) (xpreV hK hW (k := 0) rfl (by decide) rfl) rfl rfl hl.1 rfl (lv_room (Nat.le_of_ble_eq_true rfl)) dX11_run_33 ⟨Nat.le_of_ble_eq_true rfl, Nat.le_of_ble_eq_true rfl⟩) hW (fun H locs hW => ?_)
          refine lv_if_eq (tgt := 52) hx hb dX11_run_36 (by decide) (fun c1 => ?_) (fun c1 => ?_)
          · have hr := br_p c1 hr
            obtain ⟨e1, e2⟩ := Prod.mk.inj (Option.some.inj hr)
            subst e1
            subst e2
            exact hk _ _ _ hW (lv_sub hl [1] rfl)
          · have hr := br_n c1 hr
            refine lv_aload_n hx hb dX11_run_39 rfl (lv_at hl 0 rfl) ?_
            obtain ⟨r_12, M_11, hc40, hr⟩ := ob2_e hr
            refine xk_i (va_runV (As := []) (rest := []) ⟨hx, hb, hml, hown, hts⟩ (c_X11_does l D cA ad M_9 hc40) (cwV 0 hts gX11_run_X11_does rfl rfl rfl (by decide +kernel) ⟨Nat.le_of_ble_eq_true rfl, Nat.le_of_ble_eq_true rfl⟩) (xpreV hK hW (k := 0) rfl (by decide) rfl) rfl rfl hl.1 rfl (lv_room (Nat.le_of_ble_eq_true rfl)) dX11_run_40 ⟨Nat.le_of_ble_eq_true rfl, Nat.le_of_ble_eq_true rfl⟩) hW (fun H locs hW => ?_)
            refine lv_if_eq (tgt := 52) hx hb dX11_run_43 (by decide) (fun c1 => ?_) (fun c1 => ?_)
            · have hr := br_p c1 hr
              obtain ⟨e1, e2⟩ := Prod.mk.inj (Option.some.inj hr)
              subst e1
              subst e2
              exact hk _ _ _ hW (lv_sub hl [1] rfl)
            · have hr := br_n c1 hr
              obtain ⟨x1_13, ex1_13, hr⟩ := lt1_e hr
              refine lv_iinc (v := x1_13) (lv' := [(1, .int x1_13), (0, .ref (ad 0))]) hx hb dX11_run_46 hl (k := 1) rfl (by rw [ex1_13]; rfl) (by decide) rfl (fun ls hl => ?_)
              refine lv_goto (tgt := 21) hx hb dX11_run_49 (by decide) ?_
              exact ih x1_13 M_11 _ _ _ hW (lv_sub hl [1, 0] rfl) _ _ hr hk
    obtain ⟨x1_7, M_8, hr, hr3⟩ := ob2_e hr
    refine hL21_1 1000 (0 : Int32) M_4 _ _ _ x1_7 M_8 hW (lv_sub hl [1, 0] rfl) hr (fun H locs ls hW hl => ?_)
    clear hr
    have hr := hr3
    refine lv_iload_n hx hb dX11_run_52 rfl (lv_at hl 0 rfl) ?_
    obtain ⟨e1, e2⟩ := Prod.mk.inj (Option.some.inj hr)
    rw [← e1, ← e2]
    exact xiret hx hb hr0 hlocks hW adR_rf dX11_run_53
  · have hr := br_n c1 hr
    refine lv_ldc (v := (-2000000003 : Int32)) hx hb hown (hts _ (wm 1 rfl)) dX11_run_7 ?_
    obtain ⟨e1, e2⟩ := Prod.mk.inj (Option.some.inj hr)
    rw [← e1, ← e2]
    exact xiret hx hb hr0 hlocks hW adR_rf dX11_run_9

set_option maxHeartbeats 4000000 in
set_option maxRecDepth 100000 in
theorem c_X11_undo (l : Launch) (D : va_G) (cA : Nat → ClassId) (ad : Nat → Nat) (M : Mm) {r : Int32} {M' : Mm} (hr : f_X11_undo M = some (r, M')) : Met l yX11_undo wsX11_undo ({ frames := 0, cells := 0, slots := 0, locals := 0 }) (PcX D false cA ad M [.ref (ad 0)]) (QiX false D false cA ad r M') 0 0 (AX false ad) := by
  refine Met.ofW (cc := cX11_undo) (maxL := 2) (ret := (some .int)) (by decide) rfl ?_
  intro p e s m args below meth c s₁ B hml hv
  obtain ⟨rfl, hP0, hK⟩ := hv
  have hx := B.exec
  have hb := B.bytes
  have hr0 := B.returns
  have hts := atoms_spec (ws := wsX11_undo) B.pre
  have hown : s.vm.findClass RX11 = some m.cls := findClass_of_methodNamed B.named
  have hlocks := B.notSynchronized
  have hW := xstart hP0
  have hi11 : ∀ w ∈ wsX110, w ∈ wsX11_undo := fun w h => List.mem_cons_of_mem _ (List.mem_append_right _ h)
  have hl := lv_entry ([.ref (ad 0)]) (n := 2) (Nat.le_of_ble_eq_true rfl)
  rw [lg_entry_eq]
  generalize (lg_sl ([.ref (ad 0)]) ++ List.replicate (2 - (lg_sl ([.ref (ad 0)])).length) Slot.unset).toArray = ls at hl ⊢
  have hl : lv_has ls 2 [(0, .ref (ad 0))] := hl
  clear hP0
  unfold f_X11_undo at hr
  refine lv_aload_n hx hb dX11_undo_0 rfl (lv_at hl 0 rfl) ?_
  refine g11_4 hx hb hts hi11 hown hK hW (k := 0) rfl (hts _ (wm 1 rfl)) dX11_undo_1 ?_
  refine lv_if_ne (tgt := 10) hx hb dX11_undo_4 (by decide) (fun c1 => ?_) (fun c1 => ?_)
  · have hr := br_n c1 hr
    refine lv_aload_n hx hb dX11_undo_10 rfl (lv_at hl 0 rfl) ?_
    refine lv_dup hx hb dX11_undo_11 rfl ?_
    refine g11_4 hx hb hts hi11 hown hK hW (k := 0) rfl (hts _ (wm 1 rfl)) dX11_undo_12 ?_
    refine lv_iconst (v := (1 : Int32)) hx hb dX11_undo_15 (by decide) ?_
    refine lv_isub hx hb dX11_undo_16 ?_
    obtain ⟨M_1, eM_1, hr⟩ := lt1_e hr
    refine p11_4 hx hb hts hi11 hown hK hW (k := 0) rfl (hts _ (wm 1 rfl)) dX11_undo_17 (fun H locs hW => ?_)
    rw [← eM_1] at hW
    refine lv_iconst (v := (0 : Int32)) hx hb dX11_undo_20 (by decide) ?_
    refine lv_istore_n (lv' := [(1, .int (0 : Int32)), (0, .ref (ad 0))]) hx hb dX11_undo_21 rfl hl (by decide) rfl (fun ls hl => ?_)
    have hL22_1 : ∀ (n : Nat) (x1_2 : Int32) (M_3 : Mm) (H : Heap) (locs : List Loc) (ls : Array Slot) (M_4 : Mm), Xw D false cA ad M_3 (AX false ad) s.heap H locs → lv_has ls 2 [(0, .ref (ad 0)), (1, .int x1_2)] → f_X11_undo_L22 n x1_2 M_3 = some M_4 → (∀ (H : Heap) (locs : List Loc) (ls : Array Slot), Xw D false cA ad M_4 (AX false ad) s.heap H locs → lv_has ls 2 [(0, .ref (ad 0))] → W p l e (headSpec wsX11_undo { frames := 0, cells := 0, slots := 0, locals := 0 }).room s m args below meth c H locs 0 0 (MQ below (QiX false D false cA ad r M') args s 0 0 (AX false ad)) (F0 m 56 ls [])) → W p l e (headSpec wsX11_undo { frames := 0, cells := 0, slots := 0, locals := 0 }).room s m args below meth c H locs 0 0 (MQ below (QiX false D false cA ad r M') args s 0 0 (AX false ad)) (F0 m 22 ls []) := by
      intro n
      induction n with
      | zero =>
        intro x1_2 M_3 H locs ls M_4 hW hl hr hk
        exact absurd hr (by simp [f_X11_undo_L22])
      | succ n ih =>
        intro x1_2 M_3 H locs ls M_4 hW hl hr hk
        rw [f_X11_undo_L22] at hr
        refine lv_iload_n hx hb dX11_undo_22 rfl (lv_at hl 1 rfl) ?_
        refine lv_sipush (v := (159 : Int32)) hx hb dX11_undo_23 (by decide) ?_
        refine lv_icmp_ge (tgt := 56) hx hb dX11_undo_26 (by decide) (fun c1 => ?_) (fun c1 => ?_)
        · have hr := br_p c1 hr
          have e1 := Option.some.inj hr
          subst e1
          exact hk _ _ _ hW (lv_sub hl [0] rfl)
        · have hr := br_n c1 hr
          refine lv_aload_n hx hb dX11_undo_29 rfl (lv_at hl 0 rfl) ?_
          refine g11_0 hx hb hts hi11 hown hK hW (k := 0) rfl (hts _ (wm 3 rfl)) dX11_undo_30 ?_
          refine lv_iload_n hx hb dX11_undo_33 rfl (lv_at hl 1 rfl) ?_
          refine lv_aload_n hx hb dX11_undo_34 rfl (lv_at hl 0 rfl) ?_
          refine g11_2 hx hb hts hi11 hown hK hW (k := 0) rfl (hts _ (wm 4 rfl)) dX11_undo_35 ?_
          refine lv_sipush (v := (159 : Int32)) hx hb dX11_undo_38 (by decide) ?_
          refine lv_aload_n hx hb dX11_undo_41 rfl (lv_at hl 0 rfl) ?_
          refine g11_4 hx hb hts hi11 hown hK hW (k := 0) rfl (hts _ (wm 1 rfl)) dX11_undo_42 ?_
          refine lv_imul hx hb dX11_undo_45 ?_
          refine lv_iload_n hx hb dX11_undo_46 rfl (lv_at hl 1 rfl) ?_
          refine lv_iadd hx hb dX11_undo_47 ?_
          obtain ⟨hn48, hr⟩ := chk_e hr
          refine xiald hx hb hK hW (k := 3) (t := 25) rfl (by decide) (by decide) rfl (n := 795) hn48 (jx := (ix (((159 : Int32) * (gI M_3 0 4)) + x1_2))) rfl dX11_undo_48 ?_
          obtain ⟨hn49, hr⟩ := chk_e hr
          obtain ⟨M_5, eM_5, hr⟩ := lt1_e hr
          refine xiast hx hb hK hW (k := 1) (t := 24) rfl (by decide) (by decide) rfl (n := 159) hn49 (jx := (ix x1_2)) rfl dX11_undo_49 (fun H locs hW => ?_)
          rw [← eM_5] at hW
          obtain ⟨x1_6, ex1_6, hr⟩ := lt1_e hr
          refine lv_iinc (v := x1_6) (lv' := [(1, .int x1_6), (0, .ref (ad 0))]) hx hb dX11_undo_50 hl (k := 1) rfl (by rw [ex1_6]; rfl) (by decide) rfl (fun ls hl => ?_)
          refine lv_goto (tgt := 22) hx hb dX11_undo_53 (by decide) ?_
          exact ih x1_6 M_5 _ _ _ hW (lv_sub hl [1, 0] rfl) _ hr hk
    obtain ⟨M_4, hr, hr3⟩ := ob1_e hr
    refine hL22_1 1000 (0 : Int32) M_1 _ _ _ M_4 hW (lv_sub hl [1, 0] rfl) hr (fun H locs ls hW hl => ?_)
    clear hr
    have hr := hr3
    refine lv_aload_n hx hb dX11_undo_56 rfl (lv_at hl 0 rfl) ?_
    refine g11_1 hx hb hts hi11 hown hK hW (k := 0) rfl (hts _ (wm 5 rfl)) dX11_undo_57 ?_
    refine lv_iconst (v := (0 : Int32)) hx hb dX11_undo_60 (by decide) ?_
    refine lv_aload_n hx hb dX11_undo_61 rfl (lv_at hl 0 rfl) ?_
    refine g11_3 hx hb hts hi11 hown hK hW (k := 0) rfl (hts _ (wm 6 rfl)) dX11_undo_62 ?_
    refine lv_iconst (v := (2 : Int32)) hx hb dX11_undo_65 (by decide) ?_
    refine lv_aload_n hx hb dX11_undo_66 rfl (lv_at hl 0 rfl) ?_
    refine g11_4 hx hb hts hi11 hown hK hW (k := 0) rfl (hts _ (wm 1 rfl)) dX11_undo_67 ?_
    refine lv_imul hx hb dX11_undo_70 ?_
    obtain ⟨hn71, hr⟩ := chk_e hr
    refine xlald hx hb hK hW (k := 4) (t := 41) rfl (by decide) (by decide) rfl (n := 10) hn71 (jx := (ix ((2 : Int32) * (gI M_4 0 4)))) rfl dX11_undo_71 ?_
    obtain ⟨M_7, eM_7, hr⟩ := lt1_e hr
    refine xlast hx hb hK hW (k := 2) (t := 40) rfl (by decide) (by decide) rfl (n := 2) (by decide) (jx := 0) (by decide) dX11_undo_72 (fun H locs hW => ?_)
    rw [← eM_7] at hW
    refine lv_aload_n hx hb dX11_undo_73 rfl (lv_at hl 0 rfl) ?_
    refine g11_1 hx hb hts hi11 hown hK hW (k := 0) rfl (hts _ (wm 5 rfl)) dX11_undo_74 ?_
    refine lv_iconst (v := (1 : Int32)) hx hb dX11_undo_77 (by decide) ?_
    refine lv_aload_n hx hb dX11_undo_78 rfl (lv_at hl 0 rfl) ?_
    refine g11_3 hx hb hts hi11 hown hK hW (k := 0) rfl (hts _ (wm 6 rfl)) dX11_undo_79 ?_
    refine lv_iconst (v := (2 : Int32)) hx hb dX11_undo_82 (by decide) ?_
    refine lv_aload_n hx hb dX11_undo_83 rfl (lv_at hl 0 rfl) ?_
    refine g11_4 hx hb hts hi11 hown hK hW (k := 0) rfl (hts _ (wm 1 rfl)) dX11_undo_84 ?_
    refine lv_imul hx hb dX11_undo_87 ?_
    refine lv_iconst (v := (1 : Int32)) hx hb dX11_undo_88 (by decide) ?_
    refine lv_iadd hx hb dX11_undo_89 ?_
    obtain ⟨hn90, hr⟩ := chk_e hr
    refine xlald hx hb hK hW (k := 4) (t := 41) rfl (by decide) (by decide) rfl (n := 10) hn90 (jx := (ix (((2 : Int32) * (gI M_7 0 4)) + (1 : Int32)))) rfl dX11_undo_90 ?_
    obtain ⟨M_8, eM_8, hr⟩ := lt1_e hr
    refine xlast hx hb hK hW (k := 2) (t := 40) rfl (by decide) (by decide) rfl (n := 2) (by decide) (jx := 1) (by decide) dX11_undo_91 (fun H locs hW => ?_)
    rw [← eM_8] at hW
    refine lv_aload_n hx hb dX11_undo_92 rfl (lv_at hl 0 rfl) ?_
    refine g11_4 hx hb hts hi11 hown hK hW (k := 0) rfl (hts _ (wm 1 rfl)) dX11_undo_93 ?_
    obtain ⟨e1, e2⟩ := Prod.mk.inj (Option.some.inj hr)
    rw [← e1, ← e2]
    exact xiret hx hb hr0 hlocks hW adR_rf dX11_undo_96
  · have hr := br_p c1 hr
    refine lv_ldc (v := (-2000000003 : Int32)) hx hb hown (hts _ (wm 2 rfl)) dX11_undo_7 ?_
    obtain ⟨e1, e2⟩ := Prod.mk.inj (Option.some.inj hr)
    rw [← e1, ← e2]
    exact xiret hx hb hr0 hlocks hW adR_rf dX11_undo_9

set_option maxHeartbeats 4000000 in
set_option maxRecDepth 100000 in
theorem c_X11_save (l : Launch) (D : va_G) (cA : Nat → ClassId) (ad : Nat → Nat) (M : Mm) (x1 : Int32) {r : Int32} {M' : Mm} (hr : f_X11_save x1 M = some (r, M')) : Met l yX11_save wsX11_save ({ frames := 1, cells := 0, slots := 0, locals := 22 }) (PcX D false cA ad M [.ref (ad 0), .int x1]) (QiX false D false cA ad r M') 0 0 (AX false ad) := by
  refine Met.ofW (cc := cX11_save) (maxL := 3) (ret := (some .int)) (by decide) rfl ?_
  intro p e s m args below meth c s₁ B hml hv
  obtain ⟨rfl, hP0, hK⟩ := hv
  have hx := B.exec
  have hb := B.bytes
  have hr0 := B.returns
  have hts := atoms_spec (ws := wsX11_save) B.pre
  have hown : s.vm.findClass RX11 = some m.cls := findClass_of_methodNamed B.named
  have hlocks := B.notSynchronized
  have hW := xstart hP0
  have hi11 : ∀ w ∈ wsX110, w ∈ wsX11_save := fun w h => List.mem_cons_of_mem _ (List.mem_append_right _ h)
  have hl := lv_entry ([.ref (ad 0), .int x1]) (n := 3) (Nat.le_of_ble_eq_true rfl)
  rw [lg_entry_eq]
  generalize (lg_sl ([.ref (ad 0), .int x1]) ++ List.replicate (3 - (lg_sl ([.ref (ad 0), .int x1])).length) Slot.unset).toArray = ls at hl ⊢
  have hl : lv_has ls 3 [(0, .ref (ad 0)), (1, .int x1)] := hl
  clear hP0
  unfold f_X11_save at hr
  refine lv_iload_n hx hb dX11_save_0 rfl (lv_at hl 1 rfl) ?_
  refine lv_iconst (v := (0 : Int32)) hx hb dX11_save_1 (by decide) ?_
  refine lv_iconst (v := (1 : Int32)) hx hb dX11_save_2 (by decide) ?_
  obtain ⟨r_1, hc3, hr⟩ := ob1_e hr
  refine xk_i (va_runS (As := [.int x1, .int (0 : Int32), .int (1 : Int32)]) (rest := []) ⟨hx, hb, hml, hown, hts⟩ (c_X11_in l D cA ad M x1 (0 : Int32) (1 : Int32) hc3) (va_cwS 3 hts gX11_save_X11_in rfl rfl rfl (by decide +kernel) ⟨Nat.le_of_ble_eq_true rfl, Nat.le_of_ble_eq_true rfl⟩) (xpreS hK hW) rfl rfl hl.1 rfl (lv_room (Nat.le_of_ble_eq_true rfl)) dX11_save_3 ⟨Nat.le_of_ble_eq_true rfl, Nat.le_of_ble_eq_true rfl⟩) hW (fun H locs hW => ?_)
  refine lv_if_ne (tgt := 12) hx hb dX11_save_6 (by decide) (fun c1 => ?_) (fun c1 => ?_)
  · have hr := br_n c1 hr
    refine lv_iconst (v := (0 : Int32)) hx hb dX11_save_12 (by decide) ?_
    refine lv_istore_n (lv' := [(2, .int (0 : Int32)), (0, .ref (ad 0)), (1, .int x1)]) hx hb dX11_save_13 rfl hl (by decide) rfl (fun ls hl => ?_)
    have hL14_1 : ∀ (n : Nat) (x2_2 : Int32) (M_3 : Mm) (H : Heap) (locs : List Loc) (ls : Array Slot) (M_4 : Mm), Xw D false cA ad M_3 (AX false ad) s.heap H locs → lv_has ls 3 [(0, .ref (ad 0)), (1, .int x1), (2, .int x2_2)] → f_X11_save_L14 x1 n x2_2 M_3 = some M_4 → (∀ (H : Heap) (locs : List Loc) (ls : Array Slot), Xw D false cA ad M_4 (AX false ad) s.heap H locs → lv_has ls 3 [(0, .ref (ad 0)), (1, .int x1)] → W p l e (headSpec wsX11_save { frames := 1, cells := 0, slots := 0, locals := 22 }).room s m args below meth c H locs 0 0 (MQ below (QiX false D false cA ad r M') args s 0 0 (AX false ad)) (F0 m 45 ls [])) → W p l e (headSpec wsX11_save { frames := 1, cells := 0, slots := 0, locals := 22 }).room s m args below meth c H locs 0 0 (MQ below (QiX false D false cA ad r M') args s 0 0 (AX false ad)) (F0 m 14 ls []) := by
      intro n
      induction n with
      | zero =>
        intro x2_2 M_3 H locs ls M_4 hW hl hr hk
        exact absurd hr (by simp [f_X11_save_L14])
      | succ n ih =>
        intro x2_2 M_3 H locs ls M_4 hW hl hr hk
        rw [f_X11_save_L14] at hr
        refine lv_iload_n hx hb dX11_save_14 rfl (lv_at hl 2 rfl) ?_
        refine lv_sipush (v := (159 : Int32)) hx hb dX11_save_15 (by decide) ?_
        refine lv_icmp_ge (tgt := 45) hx hb dX11_save_18 (by decide) (fun c1 => ?_) (fun c1 => ?_)
        · have hr := br_p c1 hr
          have e1 := Option.some.inj hr
          subst e1
          exact hk _ _ _ hW (lv_sub hl [0, 1] rfl)
        · have hr := br_n c1 hr
          refine lv_aload_n hx hb dX11_save_21 rfl (lv_at hl 0 rfl) ?_
          refine g11_5 hx hb hts hi11 hown hK hW (k := 0) rfl (hts _ (wm 2 rfl)) dX11_save_22 ?_
          refine lv_sipush (v := (159 : Int32)) hx hb dX11_save_25 (by decide) ?_
          refine lv_iload_n hx hb dX11_save_28 rfl (lv_at hl 1 rfl) ?_
          refine lv_imul hx hb dX11_save_29 ?_
          refine lv_iload_n hx hb dX11_save_30 rfl (lv_at hl 2 rfl) ?_
          refine lv_iadd hx hb dX11_save_31 ?_
          refine lv_aload_n hx hb dX11_save_32 rfl (lv_at hl 0 rfl) ?_
          refine g11_0 hx hb hts hi11 hown hK hW (k := 0) rfl (hts _ (wm 3 rfl)) dX11_save_33 ?_
          refine lv_iload_n hx hb dX11_save_36 rfl (lv_at hl 2 rfl) ?_
          obtain ⟨hn37, hr⟩ := chk_e hr
          refine xiald hx hb hK hW (k := 1) (t := 24) rfl (by decide) (by decide) rfl (n := 159) hn37 (jx := (ix x2_2)) rfl dX11_save_37 ?_
          obtain ⟨hn38, hr⟩ := chk_e hr
          obtain ⟨M_5, eM_5, hr⟩ := lt1_e hr
          refine xiast hx hb hK hW (k := 5) (t := 26) rfl (by decide) (by decide) rfl (n := 318) hn38 (jx := (ix (((159 : Int32) * x1) + x2_2))) rfl dX11_save_38 (fun H locs hW => ?_)
          rw [← eM_5] at hW
          obtain ⟨x2_6, ex2_6, hr⟩ := lt1_e hr
          refine lv_iinc (v := x2_6) (lv' := [(2, .int x2_6), (0, .ref (ad 0)), (1, .int x1)]) hx hb dX11_save_39 hl (k := 2) rfl (by rw [ex2_6]; rfl) (by decide) rfl (fun ls hl => ?_)
          refine lv_goto (tgt := 14) hx hb dX11_save_42 (by decide) ?_
          exact ih x2_6 M_5 _ _ _ hW (lv_sub hl [1, 2, 0] rfl) _ hr hk
    obtain ⟨M_4, hr, hr3⟩ := ob1_e hr
    refine hL14_1 1000 (0 : Int32) M _ _ _ M_4 hW (lv_sub hl [1, 2, 0] rfl) hr (fun H locs ls hW hl => ?_)
    clear hr
    have hr := hr3
    refine lv_aload_n hx hb dX11_save_45 rfl (lv_at hl 0 rfl) ?_
    refine g11_6 hx hb hts hi11 hown hK hW (k := 0) rfl (hts _ (wm 4 rfl)) dX11_save_46 ?_
    refine lv_iconst (v := (2 : Int32)) hx hb dX11_save_49 (by decide) ?_
    refine lv_iload_n hx hb dX11_save_50 rfl (lv_at hl 1 rfl) ?_
    refine lv_imul hx hb dX11_save_51 ?_
    refine lv_aload_n hx hb dX11_save_52 rfl (lv_at hl 0 rfl) ?_
    refine g11_1 hx hb hts hi11 hown hK hW (k := 0) rfl (hts _ (wm 5 rfl)) dX11_save_53 ?_
    refine lv_iconst (v := (0 : Int32)) hx hb dX11_save_56 (by decide) ?_
    refine xlald hx hb hK hW (k := 2) (t := 40) rfl (by decide) (by decide) rfl (n := 2) (by decide) (jx := 0) (by decide) dX11_save_57 ?_
    obtain ⟨hn58, hr⟩ := chk_e hr
    obtain ⟨M_7, eM_7, hr⟩ := lt1_e hr
    refine xlast hx hb hK hW (k := 6) (t := 42) rfl (by decide) (by decide) rfl (n := 4) hn58 (jx := (ix ((2 : Int32) * x1))) rfl dX11_save_58 (fun H locs hW => ?_)
    rw [← eM_7] at hW
    refine lv_aload_n hx hb dX11_save_59 rfl (lv_at hl 0 rfl) ?_
    refine g11_6 hx hb hts hi11 hown hK hW (k := 0) rfl (hts _ (wm 4 rfl)) dX11_save_60 ?_
    refine lv_iconst (v := (2 : Int32)) hx hb dX11_save_63 (by decide) ?_
    refine lv_iload_n hx hb dX11_save_64 rfl (lv_at hl 1 rfl) ?_
    refine lv_imul hx hb dX11_save_65 ?_
    refine lv_iconst (v := (1 : Int32)) hx hb dX11_save_66 (by decide) ?_
    refine lv_iadd hx hb dX11_save_67 ?_
    refine lv_aload_n hx hb dX11_save_68 rfl (lv_at hl 0 rfl) ?_
    refine g11_1 hx hb hts hi11 hown hK hW (k := 0) rfl (hts _ (wm 5 rfl)) dX11_save_69 ?_
    refine lv_iconst (v := (1 : Int32)) hx hb dX11_save_72 (by decide) ?_
    refine xlald hx hb hK hW (k := 2) (t := 40) rfl (by decide) (by decide) rfl (n := 2) (by decide) (jx := 1) (by decide) dX11_save_73 ?_
    obtain ⟨hn74, hr⟩ := chk_e hr
    obtain ⟨M_8, eM_8, hr⟩ := lt1_e hr
    refine xlast hx hb hK hW (k := 6) (t := 42) rfl (by decide) (by decide) rfl (n := 4) hn74 (jx := (ix (((2 : Int32) * x1) + (1 : Int32)))) rfl dX11_save_74 (fun H locs hW => ?_)
    rw [← eM_8] at hW
    refine lv_aload_n hx hb dX11_save_75 rfl (lv_at hl 0 rfl) ?_
    refine g11_7 hx hb hts hi11 hown hK hW (k := 0) rfl (hts _ (wm 6 rfl)) dX11_save_76 ?_
    refine lv_iload_n hx hb dX11_save_79 rfl (lv_at hl 1 rfl) ?_
    refine lv_iconst (v := (1 : Int32)) hx hb dX11_save_80 (by decide) ?_
    obtain ⟨hn81, hr⟩ := chk_e hr
    obtain ⟨M_9, eM_9, hr⟩ := lt1_e hr
    refine xzast hx hb hK hW (k := 7) (t := 31) rfl (by decide) (by decide) rfl (n := 2) hn81 (jx := (ix x1)) rfl (by decide) dX11_save_81 (fun H locs hW => ?_)
    rw [← eM_9] at hW
    refine lv_aload_n hx hb dX11_save_82 rfl (lv_at hl 0 rfl) ?_
    refine g11_0 hx hb hts hi11 hown hK hW (k := 0) rfl (hts _ (wm 3 rfl)) dX11_save_83 ?_
    refine lv_bipush (v := (84 : Int32)) hx hb dX11_save_86 (by decide) ?_
    refine xiald hx hb hK hW (k := 1) (t := 24) rfl (by decide) (by decide) rfl (n := 159) (by decide) (jx := 84) (by decide) dX11_save_88 ?_
    obtain ⟨e1, e2⟩ := Prod.mk.inj (Option.some.inj hr)
    rw [← e1, ← e2]
    exact xiret hx hb hr0 hlocks hW adR_rf dX11_save_89
  · have hr := br_p c1 hr
    refine lv_ldc (v := (-2000000001 : Int32)) hx hb hown (hts _ (wm 1 rfl)) dX11_save_9 ?_
    obtain ⟨e1, e2⟩ := Prod.mk.inj (Option.some.inj hr)
    rw [← e1, ← e2]
    exact xiret hx hb hr0 hlocks hW adR_rf dX11_save_11

set_option maxHeartbeats 4000000 in
set_option maxRecDepth 100000 in
theorem c_X11_restore (l : Launch) (D : va_G) (cA : Nat → ClassId) (ad : Nat → Nat) (M : Mm) (x1 : Int32) {r : Int32} {M' : Mm} (hr : f_X11_restore x1 M = some (r, M')) : Met l yX11_restore wsX11_restore ({ frames := 1, cells := 0, slots := 0, locals := 22 }) (PcX D false cA ad M [.ref (ad 0), .int x1]) (QiX false D false cA ad r M') 0 0 (AX false ad) := by
  refine Met.ofW (cc := cX11_restore) (maxL := 3) (ret := (some .int)) (by decide) rfl ?_
  intro p e s m args below meth c s₁ B hml hv
  obtain ⟨rfl, hP0, hK⟩ := hv
  have hx := B.exec
  have hb := B.bytes
  have hr0 := B.returns
  have hts := atoms_spec (ws := wsX11_restore) B.pre
  have hown : s.vm.findClass RX11 = some m.cls := findClass_of_methodNamed B.named
  have hlocks := B.notSynchronized
  have hW := xstart hP0
  have hi11 : ∀ w ∈ wsX110, w ∈ wsX11_restore := fun w h => List.mem_cons_of_mem _ (List.mem_append_right _ h)
  have hl := lv_entry ([.ref (ad 0), .int x1]) (n := 3) (Nat.le_of_ble_eq_true rfl)
  rw [lg_entry_eq]
  generalize (lg_sl ([.ref (ad 0), .int x1]) ++ List.replicate (3 - (lg_sl ([.ref (ad 0), .int x1])).length) Slot.unset).toArray = ls at hl ⊢
  have hl : lv_has ls 3 [(0, .ref (ad 0)), (1, .int x1)] := hl
  clear hP0
  unfold f_X11_restore at hr
  refine lv_iload_n hx hb dX11_restore_0 rfl (lv_at hl 1 rfl) ?_
  refine lv_iconst (v := (0 : Int32)) hx hb dX11_restore_1 (by decide) ?_
  refine lv_iconst (v := (1 : Int32)) hx hb dX11_restore_2 (by decide) ?_
  obtain ⟨r_1, hc3, hr⟩ := ob1_e hr
  refine xk_i (va_runS (As := [.int x1, .int (0 : Int32), .int (1 : Int32)]) (rest := []) ⟨hx, hb, hml, hown, hts⟩ (c_X11_in l D cA ad M x1 (0 : Int32) (1 : Int32) hc3) (va_cwS 3 hts gX11_restore_X11_in rfl rfl rfl (by decide +kernel) ⟨Nat.le_of_ble_eq_true rfl, Nat.le_of_ble_eq_true rfl⟩) (xpreS hK hW) rfl rfl hl.1 rfl (lv_room (Nat.le_of_ble_eq_true rfl)) dX11_restore_3 ⟨Nat.le_of_ble_eq_true rfl, Nat.le_of_ble_eq_true rfl⟩) hW (fun H locs hW => ?_)
  refine lv_if_ne (tgt := 12) hx hb dX11_restore_6 (by decide) (fun c1 => ?_) (fun c1 => ?_)
  · have hr := br_n c1 hr
    refine lv_aload_n hx hb dX11_restore_12 rfl (lv_at hl 0 rfl) ?_
    refine g11_7 hx hb hts hi11 hown hK hW (k := 0) rfl (hts _ (wm 2 rfl)) dX11_restore_13 ?_
    refine lv_iload_n hx hb dX11_restore_16 rfl (lv_at hl 1 rfl) ?_
    obtain ⟨hn17, hr⟩ := chk_e hr
    refine xzald hx hb hK hW (k := 7) (t := 31) rfl (by decide) (by decide) rfl (n := 2) hn17 (jx := (ix x1)) rfl dX11_restore_17 ?_
    refine lv_if_ne (tgt := 24) hx hb dX11_restore_18 (by decide) (fun c1 => ?_) (fun c1 => ?_)
    · have hr := br_n c1 hr
      refine lv_aload_n hx hb dX11_restore_24 rfl (lv_at hl 0 rfl) ?_
      obtain ⟨M_2, hc25, hr⟩ := ob1_e hr
      refine xk_v (va_runV (As := []) (rest := []) ⟨hx, hb, hml, hown, hts⟩ (c_X11_records l D cA ad M hc25) (cwV 0 hts gX11_restore_X11_records rfl rfl rfl (by decide +kernel) ⟨Nat.le_of_ble_eq_true rfl, Nat.le_of_ble_eq_true rfl⟩) (xpreV hK hW (k := 0) rfl (by decide) rfl) rfl rfl hl.1 rfl (lv_room (Nat.le_of_ble_eq_true rfl)) dX11_restore_25 ⟨Nat.le_of_ble_eq_true rfl, Nat.le_of_ble_eq_true rfl⟩) hW (fun H locs hW => ?_)
      refine lv_iconst (v := (0 : Int32)) hx hb dX11_restore_28 (by decide) ?_
      refine lv_istore_n (lv' := [(2, .int (0 : Int32)), (0, .ref (ad 0)), (1, .int x1)]) hx hb dX11_restore_29 rfl hl (by decide) rfl (fun ls hl => ?_)
      have hL30_1 : ∀ (n : Nat) (x2_3 : Int32) (M_4 : Mm) (H : Heap) (locs : List Loc) (ls : Array Slot) (M_5 : Mm), Xw D false cA ad M_4 (AX false ad) s.heap H locs → lv_has ls 3 [(0, .ref (ad 0)), (1, .int x1), (2, .int x2_3)] → f_X11_restore_L30 x1 n x2_3 M_4 = some M_5 → (∀ (H : Heap) (locs : List Loc) (ls : Array Slot), Xw D false cA ad M_5 (AX false ad) s.heap H locs → lv_has ls 3 [(0, .ref (ad 0)), (1, .int x1)] → W p l e (headSpec wsX11_restore { frames := 1, cells := 0, slots := 0, locals := 22 }).room s m args below meth c H locs 0 0 (MQ below (QiX false D false cA ad r M') args s 0 0 (AX false ad)) (F0 m 61 ls [])) → W p l e (headSpec wsX11_restore { frames := 1, cells := 0, slots := 0, locals := 22 }).room s m args below meth c H locs 0 0 (MQ below (QiX false D false cA ad r M') args s 0 0 (AX false ad)) (F0 m 30 ls []) := by
        intro n
        induction n with
        | zero =>
          intro x2_3 M_4 H locs ls M_5 hW hl hr hk
          exact absurd hr (by simp [f_X11_restore_L30])
        | succ n ih =>
          intro x2_3 M_4 H locs ls M_5 hW hl hr hk
          rw [f_X11_restore_L30] at hr
          refine lv_iload_n hx hb dX11_restore_30 rfl (lv_at hl 2 rfl) ?_
          refine lv_sipush (v := (159 : Int32)) hx hb dX11_restore_31 (by decide) ?_
          refine lv_icmp_ge (tgt := 61) hx hb dX11_restore_34 (by decide) (fun c1 => ?_) (fun c1 => ?_)
          · have hr := br_p c1 hr
            have e1 := Option.some.inj hr
            subst e1
            exact hk _ _ _ hW (lv_sub hl [0, 1] rfl)
          · have hr := br_n c1 hr
            refine lv_aload_n hx hb dX11_restore_37 rfl (lv_at hl 0 rfl) ?_
            refine g11_0 hx hb hts hi11 hown hK hW (k := 0) rfl (hts _ (wm 4 rfl)) dX11_restore_38 ?_
            refine lv_iload_n hx hb dX11_restore_41 rfl (lv_at hl 2 rfl) ?_
            refine lv_aload_n hx hb dX11_restore_42 rfl (lv_at hl 0 rfl) ?_
            refine g11_5 hx hb hts hi11 hown hK hW (k := 0) rfl (hts _ (wm 5 rfl)) dX11_restore_43 ?_
            refine lv_sipush (v := (159 : Int32)) hx hb dX11_restore_46 (by decide) ?_
            refine lv_iload_n hx hb dX11_restore_49 rfl (lv_at hl 1 rfl) ?_
            refine lv_imul hx hb dX11_restore_50 ?_
            refine lv_iload_n hx hb dX11_restore_51 rfl (lv_at hl 2 rfl) ?_
            refine lv_iadd hx hb dX11_restore_52 ?_
            obtain ⟨hn53, hr⟩ := chk_e hr
            refine xiald hx hb hK hW (k := 5) (t := 26) rfl (by decide) (by decide) rfl (n := 318) hn53 (jx := (ix (((159 : Int32) * x1) + x2_3))) rfl dX11_restore_53 ?_
            obtain ⟨hn54, hr⟩ := chk_e hr
            obtain ⟨M_6, eM_6, hr⟩ := lt1_e hr
            refine xiast hx hb hK hW (k := 1) (t := 24) rfl (by decide) (by decide) rfl (n := 159) hn54 (jx := (ix x2_3)) rfl dX11_restore_54 (fun H locs hW => ?_)
            rw [← eM_6] at hW
            obtain ⟨x2_7, ex2_7, hr⟩ := lt1_e hr
            refine lv_iinc (v := x2_7) (lv' := [(2, .int x2_7), (0, .ref (ad 0)), (1, .int x1)]) hx hb dX11_restore_55 hl (k := 2) rfl (by rw [ex2_7]; rfl) (by decide) rfl (fun ls hl => ?_)
            refine lv_goto (tgt := 30) hx hb dX11_restore_58 (by decide) ?_
            exact ih x2_7 M_6 _ _ _ hW (lv_sub hl [1, 2, 0] rfl) _ hr hk
      obtain ⟨M_5, hr, hr3⟩ := ob1_e hr
      refine hL30_1 1000 (0 : Int32) M_2 _ _ _ M_5 hW (lv_sub hl [1, 2, 0] rfl) hr (fun H locs ls hW hl => ?_)
      clear hr
      have hr := hr3
      refine lv_aload_n hx hb dX11_restore_61 rfl (lv_at hl 0 rfl) ?_
      refine g11_1 hx hb hts hi11 hown hK hW (k := 0) rfl (hts _ (wm 6 rfl)) dX11_restore_62 ?_
      refine lv_iconst (v := (0 : Int32)) hx hb dX11_restore_65 (by decide) ?_
      refine lv_aload_n hx hb dX11_restore_66 rfl (lv_at hl 0 rfl) ?_
      refine g11_6 hx hb hts hi11 hown hK hW (k := 0) rfl (hts _ (wm 7 rfl)) dX11_restore_67 ?_
      refine lv_iconst (v := (2 : Int32)) hx hb dX11_restore_70 (by decide) ?_
      refine lv_iload_n hx hb dX11_restore_71 rfl (lv_at hl 1 rfl) ?_
      refine lv_imul hx hb dX11_restore_72 ?_
      obtain ⟨hn73, hr⟩ := chk_e hr
      refine xlald hx hb hK hW (k := 6) (t := 42) rfl (by decide) (by decide) rfl (n := 4) hn73 (jx := (ix ((2 : Int32) * x1))) rfl dX11_restore_73 ?_
      obtain ⟨M_8, eM_8, hr⟩ := lt1_e hr
      refine xlast hx hb hK hW (k := 2) (t := 40) rfl (by decide) (by decide) rfl (n := 2) (by decide) (jx := 0) (by decide) dX11_restore_74 (fun H locs hW => ?_)
      rw [← eM_8] at hW
      refine lv_aload_n hx hb dX11_restore_75 rfl (lv_at hl 0 rfl) ?_
      refine g11_1 hx hb hts hi11 hown hK hW (k := 0) rfl (hts _ (wm 6 rfl)) dX11_restore_76 ?_
      refine lv_iconst (v := (1 : Int32)) hx hb dX11_restore_79 (by decide) ?_
      refine lv_aload_n hx hb dX11_restore_80 rfl (lv_at hl 0 rfl) ?_
      refine g11_6 hx hb hts hi11 hown hK hW (k := 0) rfl (hts _ (wm 7 rfl)) dX11_restore_81 ?_
      refine lv_iconst (v := (2 : Int32)) hx hb dX11_restore_84 (by decide) ?_
      refine lv_iload_n hx hb dX11_restore_85 rfl (lv_at hl 1 rfl) ?_
      refine lv_imul hx hb dX11_restore_86 ?_
      refine lv_iconst (v := (1 : Int32)) hx hb dX11_restore_87 (by decide) ?_
      refine lv_iadd hx hb dX11_restore_88 ?_
      obtain ⟨hn89, hr⟩ := chk_e hr
      refine xlald hx hb hK hW (k := 6) (t := 42) rfl (by decide) (by decide) rfl (n := 4) hn89 (jx := (ix (((2 : Int32) * x1) + (1 : Int32)))) rfl dX11_restore_89 ?_
      obtain ⟨M_9, eM_9, hr⟩ := lt1_e hr
      refine xlast hx hb hK hW (k := 2) (t := 40) rfl (by decide) (by decide) rfl (n := 2) (by decide) (jx := 1) (by decide) dX11_restore_90 (fun H locs hW => ?_)
      rw [← eM_9] at hW
      refine lv_aload_n hx hb dX11_restore_91 rfl (lv_at hl 0 rfl) ?_
      refine g11_0 hx hb hts hi11 hown hK hW (k := 0) rfl (hts _ (wm 4 rfl)) dX11_restore_92 ?_
      refine lv_bipush (v := (84 : Int32)) hx hb dX11_restore_95 (by decide) ?_
      refine xiald hx hb hK hW (k := 1) (t := 24) rfl (by decide) (by decide) rfl (n := 159) (by decide) (jx := 84) (by decide) dX11_restore_97 ?_
      obtain ⟨e1, e2⟩ := Prod.mk.inj (Option.some.inj hr)
      rw [← e1, ← e2]
      exact xiret hx hb hr0 hlocks hW adR_rf dX11_restore_98
    · have hr := br_p c1 hr
      refine lv_ldc (v := (-2000000003 : Int32)) hx hb hown (hts _ (wm 3 rfl)) dX11_restore_21 ?_
      obtain ⟨e1, e2⟩ := Prod.mk.inj (Option.some.inj hr)
      rw [← e1, ← e2]
      exact xiret hx hb hr0 hlocks hW adR_rf dX11_restore_23
  · have hr := br_p c1 hr
    refine lv_ldc (v := (-2000000001 : Int32)) hx hb hown (hts _ (wm 1 rfl)) dX11_restore_9 ?_
    obtain ⟨e1, e2⟩ := Prod.mk.inj (Option.some.inj hr)
    rw [← e1, ← e2]
    exact xiret hx hb hr0 hlocks hW adR_rf dX11_restore_11

set_option maxHeartbeats 4000000 in
set_option maxRecDepth 100000 in
theorem c_X11_fails (l : Launch) (D : va_G) (cA : Nat → ClassId) (ad : Nat → Nat) (M : Mm) (x1 : Int32) {r : Int32} (hr : f_X11_fails x1 M = some r) : Met l yX11_fails wsX11_fails ({ frames := 1, cells := 0, slots := 0, locals := 22 }) (PcX D false cA ad M [.ref (ad 0), .int x1]) (QiX false D false cA ad r M) 0 0 (AX false ad) := by
  refine Met.ofW (cc := cX11_fails) (maxL := 2) (ret := (some .boolean)) (by decide) rfl ?_
  intro p e s m args below meth c s₁ B hml hv
  obtain ⟨rfl, hP0, hK⟩ := hv
  have hx := B.exec
  have hb := B.bytes
  have hr0 := B.returns
  have hts := atoms_spec (ws := wsX11_fails) B.pre
  have hown : s.vm.findClass RX11 = some m.cls := findClass_of_methodNamed B.named
  have hlocks := B.notSynchronized
  have hW := xstart hP0
  have hl := lv_entry ([.ref (ad 0), .int x1]) (n := 2) (Nat.le_of_ble_eq_true rfl)
  rw [lg_entry_eq]
  generalize (lg_sl ([.ref (ad 0), .int x1]) ++ List.replicate (2 - (lg_sl ([.ref (ad 0), .int x1])).length) Slot.unset).toArray = ls at hl ⊢
  have hl : lv_has ls 2 [(0, .ref (ad 0)), (1, .int x1)] := hl
  clear hP0
  unfold f_X11_fails at hr
  refine lv_aload_n hx hb dX11_fails_0 rfl (lv_at hl 0 rfl) ?_
  refine lv_iload_n hx hb dX11_fails_1 rfl (lv_at hl 1 rfl) ?_
  refine lv_bipush (v := (10 : Int32)) hx hb dX11_fails_2 (by decide) ?_
  obtain ⟨r_1, hc4, hr⟩ := ob1_e hr
  refine xk_i (va_runV (As := [.int x1, .int (10 : Int32)]) (rest := []) ⟨hx, hb, hml, hown, hts⟩ (c_X11_of l D cA ad M x1 (10 : Int32) hc4) (cwV 2 hts gX11_fails_X11_of rfl rfl rfl (by decide +kernel) ⟨Nat.le_of_ble_eq_true rfl, Nat.le_of_ble_eq_true rfl⟩) (xpreV hK hW (k := 0) rfl (by decide) rfl) rfl rfl hl.1 rfl (lv_room (Nat.le_of_ble_eq_true rfl)) dX11_fails_4 ⟨Nat.le_of_ble_eq_true rfl, Nat.le_of_ble_eq_true rfl⟩) hW (fun H locs hW => ?_)
  refine lv_iconst (v := (3 : Int32)) hx hb dX11_fails_7 (by decide) ?_
  refine lv_icmp_lt (tgt := 15) hx hb dX11_fails_8 (by decide) (fun c1 => ?_) (fun c1 => ?_)
  · have hr := br_p c1 hr
    refine lv_iconst (v := (0 : Int32)) hx hb dX11_fails_15 (by decide) ?_
    rw [← Option.some.inj hr]
    exact xzret hx hb hr0 hlocks hW adR_rf (by decide) dX11_fails_16
  · have hr := br_n c1 hr
    refine lv_iconst (v := (1 : Int32)) hx hb dX11_fails_11 (by decide) ?_
    refine lv_goto (tgt := 16) hx hb dX11_fails_12 (by decide) ?_
    rw [← Option.some.inj hr]
    exact xzret hx hb hr0 hlocks hW adR_rf (by decide) dX11_fails_16

set_option maxHeartbeats 4000000 in
set_option maxRecDepth 100000 in
theorem c_X11_path (l : Launch) (D : va_G) (cA : Nat → ClassId) (ad : Nat → Nat) (M : Mm) (x1 : Int32) (x2 : Int32) {r : Int32} (hr : f_X11_path x1 x2 M = some r) : Met l yX11_path wsX11_path ({ frames := 2, cells := 0, slots := 0, locals := 43 }) (PcX D false cA ad M [.ref (ad 0), .int x1, .int x2]) (QiX false D false cA ad r M) 0 0 (AX false ad) := by
  refine Met.ofW (cc := cX11_path) (maxL := 3) (ret := (some .int)) (by decide) rfl ?_
  intro p e s m args below meth c s₁ B hml hv
  obtain ⟨rfl, hP0, hK⟩ := hv
  have hx := B.exec
  have hb := B.bytes
  have hr0 := B.returns
  have hts := atoms_spec (ws := wsX11_path) B.pre
  have hown : s.vm.findClass RX11 = some m.cls := findClass_of_methodNamed B.named
  have hlocks := B.notSynchronized
  have hW := xstart hP0
  have hl := lv_entry ([.ref (ad 0), .int x1, .int x2]) (n := 3) (Nat.le_of_ble_eq_true rfl)
  rw [lg_entry_eq]
  generalize (lg_sl ([.ref (ad 0), .int x1, .int x2]) ++ List.replicate (3 - (lg_sl ([.ref (ad 0), .int x1, .int x2])).length) Slot.unset).toArray = ls at hl ⊢
  have hl : lv_has ls 3 [(0, .ref (ad 0)), (1, .int x1), (2, .int x2)] := hl
  clear hP0
  unfold f_X11_path at hr
  refine lv_aload_n hx hb dX11_path_0 rfl (lv_at hl 0 rfl) ?_
  refine lv_iload_n hx hb dX11_path_1 rfl (lv_at hl 1 rfl) ?_
  obtain ⟨r_1, hc2, hr⟩ := ob1_e hr
  refine xk_i (va_runV (As := [.int x1]) (rest := []) ⟨hx, hb, hml, hown, hts⟩ (c_X11_isPath l D cA ad M x1 hc2) (cwV 1 hts gX11_path_X11_isPath rfl rfl rfl (by decide +kernel) ⟨Nat.le_of_ble_eq_true rfl, Nat.le_of_ble_eq_true rfl⟩) (xpreV hK hW (k := 0) rfl (by decide) rfl) rfl rfl hl.1 rfl (lv_room (Nat.le_of_ble_eq_true rfl)) dX11_path_2 ⟨Nat.le_of_ble_eq_true rfl, Nat.le_of_ble_eq_true rfl⟩) hW (fun H locs hW => ?_)
  refine lv_if_ne (tgt := 11) hx hb dX11_path_5 (by decide) (fun c1 => ?_) (fun c1 => ?_)
  · have hr := br_n c1 hr
    refine lv_iload_n hx hb dX11_path_11 rfl (lv_at hl 2 rfl) ?_
    refine lv_iconst (v := (0 : Int32)) hx hb dX11_path_12 (by decide) ?_
    refine lv_bipush (v := (13 : Int32)) hx hb dX11_path_13 (by decide) ?_
    obtain ⟨r_2, hc15, hr⟩ := ob1_e hr
    refine xk_i (va_runS (As := [.int x2, .int (0 : Int32), .int (13 : Int32)]) (rest := []) ⟨hx, hb, hml, hown, hts⟩ (c_X11_in l D cA ad M x2 (0 : Int32) (13 : Int32) hc15) (va_cwS 3 hts gX11_path_X11_in rfl rfl rfl (by decide +kernel) ⟨Nat.le_of_ble_eq_true rfl, Nat.le_of_ble_eq_true rfl⟩) (xpreS hK hW) rfl rfl hl.1 rfl (lv_room (Nat.le_of_ble_eq_true rfl)) dX11_path_15 ⟨Nat.le_of_ble_eq_true rfl, Nat.le_of_ble_eq_true rfl⟩) hW (fun H locs hW => ?_)
    refine lv_if_ne (tgt := 24) hx hb dX11_path_18 (by decide) (fun c1 => ?_) (fun c1 => ?_)
    · have hr := br_n c1 hr
      refine lv_iload_n hx hb dX11_path_24 rfl (lv_at hl 2 rfl) ?_
      refine lv_bipush (v := (13 : Int32)) hx hb dX11_path_25 (by decide) ?_
      refine lv_icmp_ne (tgt := 46) hx hb dX11_path_27 (by decide) (fun c1 => ?_) (fun c1 => ?_)
      · have hr := br_n c1 hr
        refine lv_aload_n hx hb dX11_path_46 rfl (lv_at hl 0 rfl) ?_
        refine lv_iload_n hx hb dX11_path_47 rfl (lv_at hl 1 rfl) ?_
        refine lv_iload_n hx hb dX11_path_48 rfl (lv_at hl 2 rfl) ?_
        obtain ⟨r_3, hc49, hr⟩ := ob1_e hr
        refine xk_i (va_runV (As := [.int x1, .int x2]) (rest := []) ⟨hx, hb, hml, hown, hts⟩ (c_X11_of l D cA ad M x1 x2 hc49) (cwV 2 hts gX11_path_X11_of rfl rfl rfl (by decide +kernel) ⟨Nat.le_of_ble_eq_true rfl, Nat.le_of_ble_eq_true rfl⟩) (xpreV hK hW (k := 0) rfl (by decide) rfl) rfl rfl hl.1 rfl (lv_room (Nat.le_of_ble_eq_true rfl)) dX11_path_49 ⟨Nat.le_of_ble_eq_true rfl, Nat.le_of_ble_eq_true rfl⟩) hW (fun H locs hW => ?_)
        rw [← Option.some.inj hr]
        exact xiret hx hb hr0 hlocks hW adR_rf dX11_path_52
      · have hr := br_p c1 hr
        refine lv_aload_n hx hb dX11_path_30 rfl (lv_at hl 0 rfl) ?_
        refine lv_iload_n hx hb dX11_path_31 rfl (lv_at hl 1 rfl) ?_
        obtain ⟨r_4, hc32, hr⟩ := ob1_e hr
        refine xk_i (va_runV (As := [.int x1]) (rest := []) ⟨hx, hb, hml, hown, hts⟩ (c_X11_fails l D cA ad M x1 hc32) (cwV 1 hts gX11_path_X11_fails rfl rfl rfl (by decide +kernel) ⟨Nat.le_of_ble_eq_true rfl, Nat.le_of_ble_eq_true rfl⟩) (xpreV hK hW (k := 0) rfl (by decide) rfl) rfl rfl hl.1 rfl (lv_room (Nat.le_of_ble_eq_true rfl)) dX11_path_32 ⟨Nat.le_of_ble_eq_true rfl, Nat.le_of_ble_eq_true rfl⟩) hW (fun H locs hW => ?_)
        refine lv_if_eq (tgt := 42) hx hb dX11_path_35 (by decide) (fun c1 => ?_) (fun c1 => ?_)
        · have hr := br_p c1 hr
          refine lv_iconst (v := (0 : Int32)) hx hb dX11_path_42 (by decide) ?_
          refine lv_goto (tgt := 52) hx hb dX11_path_43 (by decide) ?_
          rw [← Option.some.inj hr]
          exact xiret hx hb hr0 hlocks hW adR_rf dX11_path_52
        · have hr := br_n c1 hr
          refine lv_iconst (v := (1 : Int32)) hx hb dX11_path_38 (by decide) ?_
          refine lv_goto (tgt := 52) hx hb dX11_path_39 (by decide) ?_
          rw [← Option.some.inj hr]
          exact xiret hx hb hr0 hlocks hW adR_rf dX11_path_52
    · have hr := br_p c1 hr
      refine lv_ldc (v := (-2000000002 : Int32)) hx hb hown (hts _ (wm 2 rfl)) dX11_path_21 ?_
      rw [← Option.some.inj hr]
      exact xiret hx hb hr0 hlocks hW adR_rf dX11_path_23
  · have hr := br_p c1 hr
    refine lv_ldc (v := (-2000000001 : Int32)) hx hb hown (hts _ (wm 1 rfl)) dX11_path_8 ?_
    rw [← Option.some.inj hr]
    exact xiret hx hb hr0 hlocks hW adR_rf dX11_path_10

set_option maxHeartbeats 4000000 in
set_option maxRecDepth 100000 in
theorem c_X11_told (l : Launch) (D : va_G) (cA : Nat → ClassId) (ad : Nat → Nat) (M : Mm) (x1 : Int32) (x2 : Int32) {r : Int32} (hr : f_X11_told x1 x2 M = some r) : Met l yX11_told wsX11_told ({ frames := 2, cells := 0, slots := 0, locals := 43 }) (PcX D false cA ad M [.ref (ad 0), .int x1, .int x2]) (QiX false D false cA ad r M) 0 0 (AX false ad) := by
  refine Met.ofW (cc := cX11_told) (maxL := 3) (ret := (some .int)) (by decide) rfl ?_
  intro p e s m args below meth c s₁ B hml hv
  obtain ⟨rfl, hP0, hK⟩ := hv
  have hx := B.exec
  have hb := B.bytes
  have hr0 := B.returns
  have hts := atoms_spec (ws := wsX11_told) B.pre
  have hown : s.vm.findClass RX11 = some m.cls := findClass_of_methodNamed B.named
  have hlocks := B.notSynchronized
  have hW := xstart hP0
  have hl := lv_entry ([.ref (ad 0), .int x1, .int x2]) (n := 3) (Nat.le_of_ble_eq_true rfl)
  rw [lg_entry_eq]
  generalize (lg_sl ([.ref (ad 0), .int x1, .int x2]) ++ List.replicate (3 - (lg_sl ([.ref (ad 0), .int x1, .int x2])).length) Slot.unset).toArray = ls at hl ⊢
  have hl : lv_has ls 3 [(0, .ref (ad 0)), (1, .int x1), (2, .int x2)] := hl
  clear hP0
  unfold f_X11_told at hr
  refine lv_aload_n hx hb dX11_told_0 rfl (lv_at hl 0 rfl) ?_
  refine lv_iload_n hx hb dX11_told_1 rfl (lv_at hl 1 rfl) ?_
  obtain ⟨r_1, hc2, hr⟩ := ob1_e hr
  refine xk_i (va_runV (As := [.int x1]) (rest := []) ⟨hx, hb, hml, hown, hts⟩ (c_X11_isPath l D cA ad M x1 hc2) (cwV 1 hts gX11_told_X11_isPath rfl rfl rfl (by decide +kernel) ⟨Nat.le_of_ble_eq_true rfl, Nat.le_of_ble_eq_true rfl⟩) (xpreV hK hW (k := 0) rfl (by decide) rfl) rfl rfl hl.1 rfl (lv_room (Nat.le_of_ble_eq_true rfl)) dX11_told_2 ⟨Nat.le_of_ble_eq_true rfl, Nat.le_of_ble_eq_true rfl⟩) hW (fun H locs hW => ?_)
  refine lv_if_ne (tgt := 11) hx hb dX11_told_5 (by decide) (fun c1 => ?_) (fun c1 => ?_)
  · have hr := br_n c1 hr
    refine lv_iload_n hx hb dX11_told_11 rfl (lv_at hl 2 rfl) ?_
    refine lv_iconst (v := (0 : Int32)) hx hb dX11_told_12 (by decide) ?_
    refine lv_iconst (v := (2 : Int32)) hx hb dX11_told_13 (by decide) ?_
    obtain ⟨r_2, hc14, hr⟩ := ob1_e hr
    refine xk_i (va_runS (As := [.int x2, .int (0 : Int32), .int (2 : Int32)]) (rest := []) ⟨hx, hb, hml, hown, hts⟩ (c_X11_in l D cA ad M x2 (0 : Int32) (2 : Int32) hc14) (va_cwS 3 hts gX11_told_X11_in rfl rfl rfl (by decide +kernel) ⟨Nat.le_of_ble_eq_true rfl, Nat.le_of_ble_eq_true rfl⟩) (xpreS hK hW) rfl rfl hl.1 rfl (lv_room (Nat.le_of_ble_eq_true rfl)) dX11_told_14 ⟨Nat.le_of_ble_eq_true rfl, Nat.le_of_ble_eq_true rfl⟩) hW (fun H locs hW => ?_)
    refine lv_if_ne (tgt := 23) hx hb dX11_told_17 (by decide) (fun c1 => ?_) (fun c1 => ?_)
    · have hr := br_n c1 hr
      refine lv_aload_n hx hb dX11_told_23 rfl (lv_at hl 0 rfl) ?_
      refine lv_iload_n hx hb dX11_told_24 rfl (lv_at hl 1 rfl) ?_
      refine lv_bipush (v := (13 : Int32)) hx hb dX11_told_25 (by decide) ?_
      obtain ⟨r_3, hc27, hr⟩ := ob1_e hr
      refine xk_i (va_runV (As := [.int x1, .int (13 : Int32)]) (rest := []) ⟨hx, hb, hml, hown, hts⟩ (c_X11_of l D cA ad M x1 (13 : Int32) hc27) (cwV 2 hts gX11_told_X11_of rfl rfl rfl (by decide +kernel) ⟨Nat.le_of_ble_eq_true rfl, Nat.le_of_ble_eq_true rfl⟩) (xpreV hK hW (k := 0) rfl (by decide) rfl) rfl rfl hl.1 rfl (lv_room (Nat.le_of_ble_eq_true rfl)) dX11_told_27 ⟨Nat.le_of_ble_eq_true rfl, Nat.le_of_ble_eq_true rfl⟩) hW (fun H locs hW => ?_)
      refine lv_ldc (v := (-2000000005 : Int32)) hx hb hown (hts _ (wm 3 rfl)) dX11_told_30 ?_
      refine lv_icmp_ne (tgt := 40) hx hb dX11_told_32 (by decide) (fun c1 => ?_) (fun c1 => ?_)
      · have hr := br_n c1 hr
        refine lv_aload_n hx hb dX11_told_40 rfl (lv_at hl 0 rfl) ?_
        refine lv_iload_n hx hb dX11_told_41 rfl (lv_at hl 1 rfl) ?_
        refine lv_bipush (v := (13 : Int32)) hx hb dX11_told_42 (by decide) ?_
        refine lv_iload_n hx hb dX11_told_44 rfl (lv_at hl 2 rfl) ?_
        refine lv_iadd hx hb dX11_told_45 ?_
        obtain ⟨r_4, hc46, hr⟩ := ob1_e hr
        refine xk_i (va_runV (As := [.int x1, .int ((13 : Int32) + x2)]) (rest := []) ⟨hx, hb, hml, hown, hts⟩ (c_X11_of l D cA ad M x1 ((13 : Int32) + x2) hc46) (cwV 2 hts gX11_told_X11_of rfl rfl rfl (by decide +kernel) ⟨Nat.le_of_ble_eq_true rfl, Nat.le_of_ble_eq_true rfl⟩) (xpreV hK hW (k := 0) rfl (by decide) rfl) rfl rfl hl.1 rfl (lv_room (Nat.le_of_ble_eq_true rfl)) dX11_told_46 ⟨Nat.le_of_ble_eq_true rfl, Nat.le_of_ble_eq_true rfl⟩) hW (fun H locs hW => ?_)
        rw [← Option.some.inj hr]
        exact xiret hx hb hr0 hlocks hW adR_rf dX11_told_49
      · have hr := br_p c1 hr
        refine lv_ldc (v := (-2000000005 : Int32)) hx hb hown (hts _ (wm 3 rfl)) dX11_told_35 ?_
        refine lv_goto (tgt := 49) hx hb dX11_told_37 (by decide) ?_
        rw [← Option.some.inj hr]
        exact xiret hx hb hr0 hlocks hW adR_rf dX11_told_49
    · have hr := br_p c1 hr
      refine lv_ldc (v := (-2000000002 : Int32)) hx hb hown (hts _ (wm 2 rfl)) dX11_told_20 ?_
      rw [← Option.some.inj hr]
      exact xiret hx hb hr0 hlocks hW adR_rf dX11_told_22
  · have hr := br_p c1 hr
    refine lv_ldc (v := (-2000000001 : Int32)) hx hb hown (hts _ (wm 1 rfl)) dX11_told_8 ?_
    rw [← Option.some.inj hr]
    exact xiret hx hb hr0 hlocks hW adR_rf dX11_told_10

set_option maxHeartbeats 4000000 in
set_option maxRecDepth 100000 in
theorem c_X11_sound (l : Launch) (D : va_G) (cA : Nat → ClassId) (ad : Nat → Nat) (M : Mm) (x1 : Int32) {r : Int64} (hr : f_X11_sound x1 M = some r) : Met l yX11_sound wsX11_sound ({ frames := 2, cells := 0, slots := 0, locals := 43 }) (PcX D false cA ad M [.ref (ad 0), .int x1]) (QlX false D false cA ad r M) 0 0 (AX false ad) := by
  refine Met.ofW (cc := cX11_sound) (maxL := 6) (ret := (some .long)) (by decide) rfl ?_
  intro p e s m args below meth c s₁ B hml hv
  obtain ⟨rfl, hP0, hK⟩ := hv
  have hx := B.exec
  have hb := B.bytes
  have hr0 := B.returns
  have hts := atoms_spec (ws := wsX11_sound) B.pre
  have hown : s.vm.findClass RX11 = some m.cls := findClass_of_methodNamed B.named
  have hlocks := B.notSynchronized
  have hW := xstart hP0
  have hl := lv_entry ([.ref (ad 0), .int x1]) (n := 6) (Nat.le_of_ble_eq_true rfl)
  rw [lg_entry_eq]
  generalize (lg_sl ([.ref (ad 0), .int x1]) ++ List.replicate (6 - (lg_sl ([.ref (ad 0), .int x1])).length) Slot.unset).toArray = ls at hl ⊢
  have hl : lv_has ls 6 [(0, .ref (ad 0)), (1, .int x1)] := hl
  clear hP0
  unfold f_X11_sound at hr
  refine lv_aload_n hx hb dX11_sound_0 rfl (lv_at hl 0 rfl) ?_
  refine lv_iload_n hx hb dX11_sound_1 rfl (lv_at hl 1 rfl) ?_
  obtain ⟨r_1, hc2, hr⟩ := ob1_e hr
  refine xk_i (va_runV (As := [.int x1]) (rest := []) ⟨hx, hb, hml, hown, hts⟩ (c_X11_isPath l D cA ad M x1 hc2) (cwV 1 hts gX11_sound_X11_isPath rfl rfl rfl (by decide +kernel) ⟨Nat.le_of_ble_eq_true rfl, Nat.le_of_ble_eq_true rfl⟩) (xpreV hK hW (k := 0) rfl (by decide) rfl) rfl rfl hl.1 rfl (lv_room (Nat.le_of_ble_eq_true rfl)) dX11_sound_2 ⟨Nat.le_of_ble_eq_true rfl, Nat.le_of_ble_eq_true rfl⟩) hW (fun H locs hW => ?_)
  refine lv_if_ne (tgt := 12) hx hb dX11_sound_5 (by decide) (fun c1 => ?_) (fun c1 => ?_)
  · have hr := br_n c1 hr
    refine lv_aload_n hx hb dX11_sound_12 rfl (lv_at hl 0 rfl) ?_
    refine lv_iload_n hx hb dX11_sound_13 rfl (lv_at hl 1 rfl) ?_
    refine lv_iconst (v := (5 : Int32)) hx hb dX11_sound_14 (by decide) ?_
    obtain ⟨r_2, hc15, hr⟩ := ob1_e hr
    refine xk_i (va_runV (As := [.int x1, .int (5 : Int32)]) (rest := []) ⟨hx, hb, hml, hown, hts⟩ (c_X11_of l D cA ad M x1 (5 : Int32) hc15) (cwV 2 hts gX11_sound_X11_of rfl rfl rfl (by decide +kernel) ⟨Nat.le_of_ble_eq_true rfl, Nat.le_of_ble_eq_true rfl⟩) (xpreV hK hW (k := 0) rfl (by decide) rfl) rfl rfl hl.1 rfl (lv_room (Nat.le_of_ble_eq_true rfl)) dX11_sound_15 ⟨Nat.le_of_ble_eq_true rfl, Nat.le_of_ble_eq_true rfl⟩) hW (fun H locs hW => ?_)
    refine lv_ldc (v := (-2000000005 : Int32)) hx hb hown (hts _ (wm 2 rfl)) dX11_sound_18 ?_
    refine lv_icmp_ne (tgt := 27) hx hb dX11_sound_20 (by decide) (fun c1 => ?_) (fun c1 => ?_)
    · have hr := br_n c1 hr
      refine lv_aload_n hx hb dX11_sound_27 rfl (lv_at hl 0 rfl) ?_
      refine lv_iload_n hx hb dX11_sound_28 rfl (lv_at hl 1 rfl) ?_
      refine lv_iconst (v := (5 : Int32)) hx hb dX11_sound_29 (by decide) ?_
      obtain ⟨r_3, hc30, hr⟩ := ob1_e hr
      refine xk_i (va_runV (As := [.int x1, .int (5 : Int32)]) (rest := []) ⟨hx, hb, hml, hown, hts⟩ (c_X11_of l D cA ad M x1 (5 : Int32) hc30) (cwV 2 hts gX11_sound_X11_of rfl rfl rfl (by decide +kernel) ⟨Nat.le_of_ble_eq_true rfl, Nat.le_of_ble_eq_true rfl⟩) (xpreV hK hW (k := 0) rfl (by decide) rfl) rfl rfl hl.1 rfl (lv_room (Nat.le_of_ble_eq_true rfl)) dX11_sound_30 ⟨Nat.le_of_ble_eq_true rfl, Nat.le_of_ble_eq_true rfl⟩) hW (fun H locs hW => ?_)
      refine lv_aload_n hx hb dX11_sound_33 rfl (lv_at hl 0 rfl) ?_
      refine lv_iload_n hx hb dX11_sound_34 rfl (lv_at hl 1 rfl) ?_
      refine lv_iconst (v := (4 : Int32)) hx hb dX11_sound_35 (by decide) ?_
      obtain ⟨r_4, hc36, hr⟩ := ob1_e hr
      refine xk_i (va_runV (As := [.int x1, .int (4 : Int32)]) (rest := [.int r_3]) ⟨hx, hb, hml, hown, hts⟩ (c_X11_of l D cA ad M x1 (4 : Int32) hc36) (cwV 2 hts gX11_sound_X11_of rfl rfl rfl (by decide +kernel) ⟨Nat.le_of_ble_eq_true rfl, Nat.le_of_ble_eq_true rfl⟩) (xpreV hK hW (k := 0) rfl (by decide) rfl) rfl rfl hl.1 rfl (lv_room (Nat.le_of_ble_eq_true rfl)) dX11_sound_36 ⟨Nat.le_of_ble_eq_true rfl, Nat.le_of_ble_eq_true rfl⟩) hW (fun H locs hW => ?_)
      refine lv_isub hx hb dX11_sound_39 ?_
      refine lv_i2l hx hb dX11_sound_40 rfl ?_
      obtain ⟨x2_5, ex2_5, hr⟩ := lt1_e hr
      rw [← ex2_5]
      refine lv_lstore_n (lv' := [(2, .long x2_5), (0, .ref (ad 0)), (1, .int x1)]) hx hb dX11_sound_41 rfl hl (by decide) rfl (fun ls hl => ?_)
      refine lv_aload_n hx hb dX11_sound_42 rfl (lv_at hl 1 rfl) ?_
      refine lv_iload_n hx hb dX11_sound_43 rfl (lv_at hl 2 rfl) ?_
      refine lv_bipush (v := (6 : Int32)) hx hb dX11_sound_44 (by decide) ?_
      obtain ⟨r_6, hc46, hr⟩ := ob1_e hr
      refine xk_i (va_runV (As := [.int x1, .int (6 : Int32)]) (rest := []) ⟨hx, hb, hml, hown, hts⟩ (c_X11_of l D cA ad M x1 (6 : Int32) hc46) (cwV 2 hts gX11_sound_X11_of rfl rfl rfl (by decide +kernel) ⟨Nat.le_of_ble_eq_true rfl, Nat.le_of_ble_eq_true rfl⟩) (xpreV hK hW (k := 0) rfl (by decide) rfl) rfl rfl hl.1 rfl (lv_room (Nat.le_of_ble_eq_true rfl)) dX11_sound_46 ⟨Nat.le_of_ble_eq_true rfl, Nat.le_of_ble_eq_true rfl⟩) hW (fun H locs hW => ?_)
      refine lv_aload_n hx hb dX11_sound_49 rfl (lv_at hl 1 rfl) ?_
      refine lv_iload_n hx hb dX11_sound_50 rfl (lv_at hl 2 rfl) ?_
      refine lv_iconst (v := (4 : Int32)) hx hb dX11_sound_51 (by decide) ?_
      obtain ⟨r_7, hc52, hr⟩ := ob1_e hr
      refine xk_i (va_runV (As := [.int x1, .int (4 : Int32)]) (rest := [.int r_6]) ⟨hx, hb, hml, hown, hts⟩ (c_X11_of l D cA ad M x1 (4 : Int32) hc52) (cwV 2 hts gX11_sound_X11_of rfl rfl rfl (by decide +kernel) ⟨Nat.le_of_ble_eq_true rfl, Nat.le_of_ble_eq_true rfl⟩) (xpreV hK hW (k := 0) rfl (by decide) rfl) rfl rfl hl.1 rfl (lv_room (Nat.le_of_ble_eq_true rfl)) dX11_sound_52 ⟨Nat.le_of_ble_eq_true rfl, Nat.le_of_ble_eq_true rfl⟩) hW (fun H locs hW => ?_)
      refine lv_isub hx hb dX11_sound_55 ?_
      refine lv_i2l hx hb dX11_sound_56 rfl ?_
      obtain ⟨x4_8, ex4_8, hr⟩ := lt1_e hr
      rw [← ex4_8]
      refine lv_lstore (lv' := [(4, .long x4_8), (2, .long x2_5), (0, .ref (ad 0)), (1, .int x1)]) hx hb dX11_sound_57 hl (by decide) rfl (fun ls hl => ?_)
      refine lv_aload_n hx hb dX11_sound_59 rfl (lv_at hl 2 rfl) ?_
      refine lv_iload_n hx hb dX11_sound_60 rfl (lv_at hl 3 rfl) ?_
      refine lv_iconst (v := (0 : Int32)) hx hb dX11_sound_61 (by decide) ?_
      obtain ⟨r_9, hc62, hr⟩ := ob1_e hr
      refine xk_i (va_runV (As := [.int x1, .int (0 : Int32)]) (rest := []) ⟨hx, hb, hml, hown, hts⟩ (c_X11_of l D cA ad M x1 (0 : Int32) hc62) (cwV 2 hts gX11_sound_X11_of rfl rfl rfl (by decide +kernel) ⟨Nat.le_of_ble_eq_true rfl, Nat.le_of_ble_eq_true rfl⟩) (xpreV hK hW (k := 0) rfl (by decide) rfl) rfl rfl hl.1 rfl (lv_room (Nat.le_of_ble_eq_true rfl)) dX11_sound_62 ⟨Nat.le_of_ble_eq_true rfl, Nat.le_of_ble_eq_true rfl⟩) hW (fun H locs hW => ?_)
      refine lv_i2l hx hb dX11_sound_65 rfl ?_
      refine lv_ldc2 (v := (500000 : Int64)) hx hb hown (hts _ (wm 4 rfl)) dX11_sound_66 ?_
      refine lv_lmul hx hb dX11_sound_69 ?_
      refine lv_lload_n hx hb dX11_sound_70 rfl (lv_at hl 1 rfl) ?_
      refine lv_lload hx hb dX11_sound_71 (lv_at hl 0 rfl) ?_
      refine lv_ladd hx hb dX11_sound_73 ?_
      refine lv_lmul hx hb dX11_sound_74 ?_
      refine lv_lload_n hx hb dX11_sound_75 rfl (lv_at hl 1 rfl) ?_
      refine lv_lload hx hb dX11_sound_76 (lv_at hl 0 rfl) ?_
      refine lv_lmul hx hb dX11_sound_78 ?_
      refine lv_ldc2 (v := (1000 : Int64)) hx hb hown (hts _ (wm 5 rfl)) dX11_sound_79 ?_
      refine lv_ldiv hx hb dX11_sound_82 (by decide) ?_
      obtain ⟨hc83, hr⟩ := chk_e hr
      refine lv_ldiv hx hb dX11_sound_83 (of_decide_eq_true hc83) ?_
      rw [← Option.some.inj hr]
      exact xlret hx hb hr0 hlocks hW adR_rf dX11_sound_84
    · have hr := br_p c1 hr
      refine lv_ldc2 (v := (-2000000005 : Int64)) hx hb hown (hts _ (wm 3 rfl)) dX11_sound_23 ?_
      rw [← Option.some.inj hr]
      exact xlret hx hb hr0 hlocks hW adR_rf dX11_sound_26
  · have hr := br_p c1 hr
    refine lv_ldc2 (v := (-2000000001 : Int64)) hx hb hown (hts _ (wm 1 rfl)) dX11_sound_8 ?_
    rw [← Option.some.inj hr]
    exact xlret hx hb hr0 hlocks hW adR_rf dX11_sound_11

set_option maxHeartbeats 4000000 in
set_option maxRecDepth 100000 in
theorem c_X11_factor (l : Launch) (D : va_G) (cA : Nat → ClassId) (ad : Nat → Nat) (M : Mm) (x1 : Int32) {r : Int32} (hr : f_X11_factor x1 M = some r) : Met l yX11_factor wsX11_factor ({ frames := 3, cells := 0, slots := 0, locals := 73 }) (PcX D false cA ad M [.ref (ad 0), .int x1]) (QiX false D false cA ad r M) 0 0 (AX false ad) := by
  refine Met.ofW (cc := cX11_factor) (maxL := 2) (ret := (some .int)) (by decide) rfl ?_
  intro p e s m args below meth c s₁ B hml hv
  obtain ⟨rfl, hP0, hK⟩ := hv
  have hx := B.exec
  have hb := B.bytes
  have hr0 := B.returns
  have hts := atoms_spec (ws := wsX11_factor) B.pre
  have hown : s.vm.findClass RX11 = some m.cls := findClass_of_methodNamed B.named
  have hlocks := B.notSynchronized
  have hW := xstart hP0
  have hl := lv_entry ([.ref (ad 0), .int x1]) (n := 2) (Nat.le_of_ble_eq_true rfl)
  rw [lg_entry_eq]
  generalize (lg_sl ([.ref (ad 0), .int x1]) ++ List.replicate (2 - (lg_sl ([.ref (ad 0), .int x1])).length) Slot.unset).toArray = ls at hl ⊢
  have hl : lv_has ls 2 [(0, .ref (ad 0)), (1, .int x1)] := hl
  clear hP0
  unfold f_X11_factor at hr
  refine lv_iload_n hx hb dX11_factor_0 rfl (lv_at hl 1 rfl) ?_
  refine lv_ldc (v := (-100000 : Int32)) hx hb hown (hts _ (wm 1 rfl)) dX11_factor_1 ?_
  refine lv_ldc (v := (100000 : Int32)) hx hb hown (hts _ (wm 2 rfl)) dX11_factor_3 ?_
  obtain ⟨r_1, hc5, hr⟩ := ob1_e hr
  refine xk_i (va_runS (As := [.int x1, .int (-100000 : Int32), .int (100000 : Int32)]) (rest := []) ⟨hx, hb, hml, hown, hts⟩ (c_X11_in l D cA ad M x1 (-100000 : Int32) (100000 : Int32) hc5) (va_cwS 3 hts gX11_factor_X11_in rfl rfl rfl (by decide +kernel) ⟨Nat.le_of_ble_eq_true rfl, Nat.le_of_ble_eq_true rfl⟩) (xpreS hK hW) rfl rfl hl.1 rfl (lv_room (Nat.le_of_ble_eq_true rfl)) dX11_factor_5 ⟨Nat.le_of_ble_eq_true rfl, Nat.le_of_ble_eq_true rfl⟩) hW (fun H locs hW => ?_)
  refine lv_if_eq (tgt := 20) hx hb dX11_factor_8 (by decide) (fun c1 => ?_) (fun c1 => ?_)
  · have hr := br_p c1 hr
    refine lv_ldc (v := (-2000000002 : Int32)) hx hb hown (hts _ (wm 3 rfl)) dX11_factor_20 ?_
    rw [← Option.some.inj hr]
    exact xiret hx hb hr0 hlocks hW adR_rf dX11_factor_22
  · have hr := br_n c1 hr
    refine lv_aload_n hx hb dX11_factor_11 rfl (lv_at hl 0 rfl) ?_
    refine lv_iload_n hx hb dX11_factor_12 rfl (lv_at hl 1 rfl) ?_
    refine lv_i2l hx hb dX11_factor_13 rfl ?_
    obtain ⟨r_2, hc14, hr⟩ := ob1_e hr
    refine xk_i (va_runV (As := [.long (Int32.toInt64 x1)]) (rest := []) ⟨hx, hb, hml, hown, hts⟩ (c_X11_factorFor l D cA ad M (Int32.toInt64 x1) hc14) (cwV 1 hts gX11_factor_X11_factorFor rfl rfl rfl (by decide +kernel) ⟨Nat.le_of_ble_eq_true rfl, Nat.le_of_ble_eq_true rfl⟩) (xpreV hK hW (k := 0) rfl (by decide) rfl) rfl rfl hl.1 rfl (lv_room (Nat.le_of_ble_eq_true rfl)) dX11_factor_14 ⟨Nat.le_of_ble_eq_true rfl, Nat.le_of_ble_eq_true rfl⟩) hW (fun H locs hW => ?_)
    refine lv_goto (tgt := 22) hx hb dX11_factor_17 (by decide) ?_
    rw [← Option.some.inj hr]
    exact xiret hx hb hr0 hlocks hW adR_rf dX11_factor_22

set_option maxHeartbeats 4000000 in
set_option maxRecDepth 100000 in
theorem c_X11_round (l : Launch) (D : va_G) (cA : Nat → ClassId) (ad : Nat → Nat) (M : Mm) (x1 : Int32) (x2 : Int32) {r : Int32} (hr : f_X11_round x1 x2 M = some r) : Met l yX11_round wsX11_round ({ frames := 1, cells := 0, slots := 0, locals := 22 }) (PcX D false cA ad M [.ref (ad 0), .int x1, .int x2]) (QiX false D false cA ad r M) 0 0 (AX false ad) := by
  refine Met.ofW (cc := cX11_round) (maxL := 3) (ret := (some .int)) (by decide) rfl ?_
  intro p e s m args below meth c s₁ B hml hv
  obtain ⟨rfl, hP0, hK⟩ := hv
  have hx := B.exec
  have hb := B.bytes
  have hr0 := B.returns
  have hts := atoms_spec (ws := wsX11_round) B.pre
  have hown : s.vm.findClass RX11 = some m.cls := findClass_of_methodNamed B.named
  have hlocks := B.notSynchronized
  have hW := xstart hP0
  have hi11 : ∀ w ∈ wsX110, w ∈ wsX11_round := fun w h => List.mem_cons_of_mem _ (List.mem_append_right _ h)
  have hl := lv_entry ([.ref (ad 0), .int x1, .int x2]) (n := 3) (Nat.le_of_ble_eq_true rfl)
  rw [lg_entry_eq]
  generalize (lg_sl ([.ref (ad 0), .int x1, .int x2]) ++ List.replicate (3 - (lg_sl ([.ref (ad 0), .int x1, .int x2])).length) Slot.unset).toArray = ls at hl ⊢
  have hl : lv_has ls 3 [(0, .ref (ad 0)), (1, .int x1), (2, .int x2)] := hl
  clear hP0
  unfold f_X11_round at hr
  refine lv_iload_n hx hb dX11_round_0 rfl (lv_at hl 1 rfl) ?_
  refine lv_iconst (v := (0 : Int32)) hx hb dX11_round_1 (by decide) ?_
  refine lv_aload_n hx hb dX11_round_2 rfl (lv_at hl 0 rfl) ?_
  refine g11_0 hx hb hts hi11 hown hK hW (k := 0) rfl (hts _ (wm 1 rfl)) dX11_round_3 ?_
  refine lv_bipush (v := (86 : Int32)) hx hb dX11_round_6 (by decide) ?_
  refine xiald hx hb hK hW (k := 1) (t := 24) rfl (by decide) (by decide) rfl (n := 159) (by decide) (jx := 86) (by decide) dX11_round_8 ?_
  refine lv_iconst (v := (1 : Int32)) hx hb dX11_round_9 (by decide) ?_
  refine lv_isub hx hb dX11_round_10 ?_
  obtain ⟨r_1, hc11, hr⟩ := ob1_e hr
  refine xk_i (va_runS (As := [.int x1, .int (0 : Int32), .int ((gI M 1 86) - (1 : Int32))]) (rest := []) ⟨hx, hb, hml, hown, hts⟩ (c_X11_in l D cA ad M x1 (0 : Int32) ((gI M 1 86) - (1 : Int32)) hc11) (va_cwS 3 hts gX11_round_X11_in rfl rfl rfl (by decide +kernel) ⟨Nat.le_of_ble_eq_true rfl, Nat.le_of_ble_eq_true rfl⟩) (xpreS hK hW) rfl rfl hl.1 rfl (lv_room (Nat.le_of_ble_eq_true rfl)) dX11_round_11 ⟨Nat.le_of_ble_eq_true rfl, Nat.le_of_ble_eq_true rfl⟩) hW (fun H locs hW => ?_)
  refine lv_if_ne (tgt := 20) hx hb dX11_round_14 (by decide) (fun c1 => ?_) (fun c1 => ?_)
  · have hr := br_n c1 hr
    refine lv_iload_n hx hb dX11_round_20 rfl (lv_at hl 2 rfl) ?_
    refine lv_iconst (v := (0 : Int32)) hx hb dX11_round_21 (by decide) ?_
    refine lv_iconst (v := (5 : Int32)) hx hb dX11_round_22 (by decide) ?_
    obtain ⟨r_2, hc23, hr⟩ := ob1_e hr
    refine xk_i (va_runS (As := [.int x2, .int (0 : Int32), .int (5 : Int32)]) (rest := []) ⟨hx, hb, hml, hown, hts⟩ (c_X11_in l D cA ad M x2 (0 : Int32) (5 : Int32) hc23) (va_cwS 3 hts gX11_round_X11_in rfl rfl rfl (by decide +kernel) ⟨Nat.le_of_ble_eq_true rfl, Nat.le_of_ble_eq_true rfl⟩) (xpreS hK hW) rfl rfl hl.1 rfl (lv_room (Nat.le_of_ble_eq_true rfl)) dX11_round_23 ⟨Nat.le_of_ble_eq_true rfl, Nat.le_of_ble_eq_true rfl⟩) hW (fun H locs hW => ?_)
    refine lv_if_eq (tgt := 46) hx hb dX11_round_26 (by decide) (fun c1 => ?_) (fun c1 => ?_)
    · have hr := br_p c1 hr
      refine lv_ldc (v := (-2000000002 : Int32)) hx hb hown (hts _ (wm 3 rfl)) dX11_round_46 ?_
      rw [← Option.some.inj hr]
      exact xiret hx hb hr0 hlocks hW adR_rf dX11_round_48
    · have hr := br_n c1 hr
      refine lv_aload_n hx hb dX11_round_29 rfl (lv_at hl 0 rfl) ?_
      refine g11_0 hx hb hts hi11 hown hK hW (k := 0) rfl (hts _ (wm 1 rfl)) dX11_round_30 ?_
      refine lv_bipush (v := (87 : Int32)) hx hb dX11_round_33 (by decide) ?_
      refine lv_bipush (v := (6 : Int32)) hx hb dX11_round_35 (by decide) ?_
      refine lv_iload_n hx hb dX11_round_37 rfl (lv_at hl 1 rfl) ?_
      refine lv_imul hx hb dX11_round_38 ?_
      refine lv_iadd hx hb dX11_round_39 ?_
      refine lv_iload_n hx hb dX11_round_40 rfl (lv_at hl 2 rfl) ?_
      refine lv_iadd hx hb dX11_round_41 ?_
      obtain ⟨hn42, hr⟩ := chk_e hr
      refine xiald hx hb hK hW (k := 1) (t := 24) rfl (by decide) (by decide) rfl (n := 159) hn42 (jx := (ix (((87 : Int32) + ((6 : Int32) * x1)) + x2))) rfl dX11_round_42 ?_
      refine lv_goto (tgt := 48) hx hb dX11_round_43 (by decide) ?_
      rw [← Option.some.inj hr]
      exact xiret hx hb hr0 hlocks hW adR_rf dX11_round_48
  · have hr := br_p c1 hr
    refine lv_ldc (v := (-2000000001 : Int32)) hx hb hown (hts _ (wm 2 rfl)) dX11_round_17 ?_
    rw [← Option.some.inj hr]
    exact xiret hx hb hr0 hlocks hW adR_rf dX11_round_19

set_option maxHeartbeats 4000000 in
set_option maxRecDepth 100000 in
theorem c_X11_volume (l : Launch) (D : va_G) (cA : Nat → ClassId) (ad : Nat → Nat) (M : Mm) (x1 : Int32) {r : Int64} (hr : f_X11_volume x1 M = some r) : Met l yX11_volume wsX11_volume ({ frames := 1, cells := 0, slots := 0, locals := 22 }) (PcX D false cA ad M [.ref (ad 0), .int x1]) (QlX false D false cA ad r M) 0 0 (AX false ad) := by
  refine Met.ofW (cc := cX11_volume) (maxL := 2) (ret := (some .long)) (by decide) rfl ?_
  intro p e s m args below meth c s₁ B hml hv
  obtain ⟨rfl, hP0, hK⟩ := hv
  have hx := B.exec
  have hb := B.bytes
  have hr0 := B.returns
  have hts := atoms_spec (ws := wsX11_volume) B.pre
  have hown : s.vm.findClass RX11 = some m.cls := findClass_of_methodNamed B.named
  have hlocks := B.notSynchronized
  have hW := xstart hP0
  have hi11 : ∀ w ∈ wsX110, w ∈ wsX11_volume := fun w h => List.mem_cons_of_mem _ (List.mem_append_right _ h)
  have hl := lv_entry ([.ref (ad 0), .int x1]) (n := 2) (Nat.le_of_ble_eq_true rfl)
  rw [lg_entry_eq]
  generalize (lg_sl ([.ref (ad 0), .int x1]) ++ List.replicate (2 - (lg_sl ([.ref (ad 0), .int x1])).length) Slot.unset).toArray = ls at hl ⊢
  have hl : lv_has ls 2 [(0, .ref (ad 0)), (1, .int x1)] := hl
  clear hP0
  unfold f_X11_volume at hr
  refine lv_iload_n hx hb dX11_volume_0 rfl (lv_at hl 1 rfl) ?_
  refine lv_iconst (v := (0 : Int32)) hx hb dX11_volume_1 (by decide) ?_
  refine lv_iconst (v := (2 : Int32)) hx hb dX11_volume_2 (by decide) ?_
  obtain ⟨r_1, hc3, hr⟩ := ob1_e hr
  refine xk_i (va_runS (As := [.int x1, .int (0 : Int32), .int (2 : Int32)]) (rest := []) ⟨hx, hb, hml, hown, hts⟩ (c_X11_in l D cA ad M x1 (0 : Int32) (2 : Int32) hc3) (va_cwS 3 hts gX11_volume_X11_in rfl rfl rfl (by decide +kernel) ⟨Nat.le_of_ble_eq_true rfl, Nat.le_of_ble_eq_true rfl⟩) (xpreS hK hW) rfl rfl hl.1 rfl (lv_room (Nat.le_of_ble_eq_true rfl)) dX11_volume_3 ⟨Nat.le_of_ble_eq_true rfl, Nat.le_of_ble_eq_true rfl⟩) hW (fun H locs hW => ?_)
  refine lv_if_ne (tgt := 13) hx hb dX11_volume_6 (by decide) (fun c1 => ?_) (fun c1 => ?_)
  · have hr := br_n c1 hr
    refine lv_iload_n hx hb dX11_volume_13 rfl (lv_at hl 1 rfl) ?_
    refine lv_iconst (v := (2 : Int32)) hx hb dX11_volume_14 (by decide) ?_
    refine lv_icmp_ne (tgt := 34) hx hb dX11_volume_15 (by decide) (fun c1 => ?_) (fun c1 => ?_)
    · have hr := br_n c1 hr
      refine lv_aload_n hx hb dX11_volume_34 rfl (lv_at hl 0 rfl) ?_
      refine g11_1 hx hb hts hi11 hown hK hW (k := 0) rfl (hts _ (wm 2 rfl)) dX11_volume_35 ?_
      refine lv_iload_n hx hb dX11_volume_38 rfl (lv_at hl 1 rfl) ?_
      obtain ⟨hn39, hr⟩ := chk_e hr
      refine xlald hx hb hK hW (k := 2) (t := 40) rfl (by decide) (by decide) rfl (n := 2) hn39 (jx := (ix x1)) rfl dX11_volume_39 ?_
      rw [← Option.some.inj hr]
      exact xlret hx hb hr0 hlocks hW adR_rf dX11_volume_40
    · have hr := br_p c1 hr
      refine lv_aload_n hx hb dX11_volume_18 rfl (lv_at hl 0 rfl) ?_
      refine g11_1 hx hb hts hi11 hown hK hW (k := 0) rfl (hts _ (wm 2 rfl)) dX11_volume_19 ?_
      refine lv_iconst (v := (0 : Int32)) hx hb dX11_volume_22 (by decide) ?_
      refine xlald hx hb hK hW (k := 2) (t := 40) rfl (by decide) (by decide) rfl (n := 2) (by decide) (jx := 0) (by decide) dX11_volume_23 ?_
      refine lv_aload_n hx hb dX11_volume_24 rfl (lv_at hl 0 rfl) ?_
      refine g11_1 hx hb hts hi11 hown hK hW (k := 0) rfl (hts _ (wm 2 rfl)) dX11_volume_25 ?_
      refine lv_iconst (v := (1 : Int32)) hx hb dX11_volume_28 (by decide) ?_
      refine xlald hx hb hK hW (k := 2) (t := 40) rfl (by decide) (by decide) rfl (n := 2) (by decide) (jx := 1) (by decide) dX11_volume_29 ?_
      refine lv_lsub hx hb dX11_volume_30 ?_
      refine lv_goto (tgt := 40) hx hb dX11_volume_31 (by decide) ?_
      rw [← Option.some.inj hr]
      exact xlret hx hb hr0 hlocks hW adR_rf dX11_volume_40
  · have hr := br_p c1 hr
    refine lv_ldc2 (v := (-2000000002 : Int64)) hx hb hown (hts _ (wm 1 rfl)) dX11_volume_9 ?_
    rw [← Option.some.inj hr]
    exact xlret hx hb hr0 hlocks hW adR_rf dX11_volume_12

set_option maxHeartbeats 4000000 in
set_option maxRecDepth 100000 in
theorem c_X11_layVelocities (l : Launch) (D : va_G) (cA : Nat → ClassId) (ad : Nat → Nat) (M : Mm) {r : Int32} {M' : Mm} (hr : f_X11_layVelocities M = some (r, M')) : Met l yX11_layVelocities wsX11_layVelocities ({ frames := 0, cells := 0, slots := 0, locals := 0 }) (PcX D false cA ad M [.ref (ad 0)]) (QiX false D false cA ad r M') 0 0 (AX false ad) := by
  refine Met.ofW (cc := cX11_layVelocities) (maxL := 5) (ret := (some .int)) (by decide) rfl ?_
  intro p e s m args below meth c s₁ B hml hv
  obtain ⟨rfl, hP0, hK⟩ := hv
  have hx := B.exec
  have hb := B.bytes
  have hr0 := B.returns
  have hts := atoms_spec (ws := wsX11_layVelocities) B.pre
  have hown : s.vm.findClass RX11 = some m.cls := findClass_of_methodNamed B.named
  have hlocks := B.notSynchronized
  have hW := xstart hP0
  have hi11 : ∀ w ∈ wsX110, w ∈ wsX11_layVelocities := fun w h => List.mem_cons_of_mem _ (List.mem_append_right _ h)
  have hl := lv_entry ([.ref (ad 0)]) (n := 5) (Nat.le_of_ble_eq_true rfl)
  rw [lg_entry_eq]
  generalize (lg_sl ([.ref (ad 0)]) ++ List.replicate (5 - (lg_sl ([.ref (ad 0)])).length) Slot.unset).toArray = ls at hl ⊢
  have hl : lv_has ls 5 [(0, .ref (ad 0))] := hl
  clear hP0
  unfold f_X11_layVelocities at hr
  refine lv_iconst (v := (0 : Int32)) hx hb dX11_layVelocities_0 (by decide) ?_
  refine lv_istore_n (lv' := [(1, .int (0 : Int32)), (0, .ref (ad 0))]) hx hb dX11_layVelocities_1 rfl hl (by decide) rfl (fun ls hl => ?_)
  refine lv_iconst (v := (0 : Int32)) hx hb dX11_layVelocities_2 (by decide) ?_
  refine lv_istore_n (lv' := [(2, .int (0 : Int32)), (1, .int (0 : Int32)), (0, .ref (ad 0))]) hx hb dX11_layVelocities_3 rfl hl (by decide) rfl (fun ls hl => ?_)
  have hL4_1 : ∀ (n : Nat) (x1_1 : Int32) (x2_2 : Int32) (M_3 : Mm) (H : Heap) (locs : List Loc) (ls : Array Slot) (x1_4 : Int32) (M_5 : Mm), Xw D false cA ad M_3 (AX false ad) s.heap H locs → lv_has ls 5 [(0, .ref (ad 0)), (1, .int x1_1), (2, .int x2_2)] → f_X11_layVelocities_L4 n x1_1 x2_2 M_3 = some (x1_4, M_5) → (∀ (H : Heap) (locs : List Loc) (ls : Array Slot), Xw D false cA ad M_5 (AX false ad) s.heap H locs → lv_has ls 5 [(1, .int x1_4)] → W p l e (headSpec wsX11_layVelocities { frames := 0, cells := 0, slots := 0, locals := 0 }).room s m args below meth c H locs 0 0 (MQ below (QiX false D false cA ad r M') args s 0 0 (AX false ad)) (F0 m 94 ls [])) → W p l e (headSpec wsX11_layVelocities { frames := 0, cells := 0, slots := 0, locals := 0 }).room s m args below meth c H locs 0 0 (MQ below (QiX false D false cA ad r M') args s 0 0 (AX false ad)) (F0 m 4 ls []) := by
    intro n
    induction n with
    | zero =>
      intro x1_1 x2_2 M_3 H locs ls x1_4 M_5 hW hl hr hk
      exact absurd hr (by simp [f_X11_layVelocities_L4])
    | succ n ih =>
      intro x1_1 x2_2 M_3 H locs ls x1_4 M_5 hW hl hr hk
      rw [f_X11_layVelocities_L4] at hr
      refine lv_iload_n hx hb dX11_layVelocities_4 rfl (lv_at hl 2 rfl) ?_
      refine lv_aload_n hx hb dX11_layVelocities_5 rfl (lv_at hl 0 rfl) ?_
      refine g11_0 hx hb hts hi11 hown hK hW (k := 0) rfl (hts _ (wm 1 rfl)) dX11_layVelocities_6 ?_
      refine lv_bipush (v := (86 : Int32)) hx hb dX11_layVelocities_9 (by decide) ?_
      refine xiald hx hb hK hW (k := 1) (t := 24) rfl (by decide) (by decide) rfl (n := 159) (by decide) (jx := 86) (by decide) dX11_layVelocities_11 ?_
      refine lv_icmp_ge (tgt := 94) hx hb dX11_layVelocities_12 (by decide) (fun c1 => ?_) (fun c1 => ?_)
      · have hr := br_p c1 hr
        obtain ⟨e1, e2⟩ := Prod.mk.inj (Option.some.inj hr)
        subst e1
        subst e2
        exact hk _ _ _ hW (lv_sub hl [1] rfl)
      · have hr := br_n c1 hr
        refine lv_aload_n hx hb dX11_layVelocities_15 rfl (lv_at hl 0 rfl) ?_
        refine g11_0 hx hb hts hi11 hown hK hW (k := 0) rfl (hts _ (wm 1 rfl)) dX11_layVelocities_16 ?_
        refine lv_bipush (v := (87 : Int32)) hx hb dX11_layVelocities_19 (by decide) ?_
        refine lv_bipush (v := (6 : Int32)) hx hb dX11_layVelocities_21 (by decide) ?_
        refine lv_iload_n hx hb dX11_layVelocities_23 rfl (lv_at hl 2 rfl) ?_
        refine lv_imul hx hb dX11_layVelocities_24 ?_
        refine lv_iadd hx hb dX11_layVelocities_25 ?_
        obtain ⟨hn26, hr⟩ := chk_e hr
        refine xiald hx hb hK hW (k := 1) (t := 24) rfl (by decide) (by decide) rfl (n := 159) hn26 (jx := (ix ((87 : Int32) + ((6 : Int32) * x2_2)))) rfl dX11_layVelocities_26 ?_
        obtain ⟨x3_6, ex3_6, hr⟩ := lt1_e hr
        rw [← ex3_6]
        refine lv_istore_n (lv' := [(3, .int x3_6), (0, .ref (ad 0)), (1, .int x1_1), (2, .int x2_2)]) hx hb dX11_layVelocities_27 rfl hl (by decide) rfl (fun ls hl => ?_)
        refine lv_iload_n hx hb dX11_layVelocities_28 rfl (lv_at hl 0 rfl) ?_
        refine lv_ldc (v := (-2000000005 : Int32)) hx hb hown (hts _ (wm 2 rfl)) dX11_layVelocities_29 ?_
        obtain ⟨x1_7, M_8, hr, hr3⟩ := ob2_e hr
        have hj88_8 : ∀ (H : Heap) (locs : List Loc) (ls : Array Slot), Xw D false cA ad M_8 (AX false ad) s.heap H locs → lv_has ls 5 [(0, .ref (ad 0)), (2, .int x2_2), (1, .int x1_7)] → W p l e (headSpec wsX11_layVelocities { frames := 0, cells := 0, slots := 0, locals := 0 }).room s m args below meth c H locs 0 0 (MQ below (QiX false D false cA ad r M') args s 0 0 (AX false ad)) (F0 m 88 ls []) := by
          intro H locs ls hW hl
          have hr := hr3
          obtain ⟨x2_17, ex2_17, hr⟩ := lt1_e hr
          refine lv_iinc (v := x2_17) (lv' := [(2, .int x2_17), (0, .ref (ad 0)), (1, .int x1_7)]) hx hb dX11_layVelocities_88 hl (k := 1) rfl (by rw [ex2_17]; rfl) (by decide) rfl (fun ls hl => ?_)
          refine lv_goto (tgt := 4) hx hb dX11_layVelocities_91 (by decide) ?_
          exact ih x1_7 x2_17 M_8 _ _ _ hW (lv_sub hl [1, 2, 0] rfl) _ _ hr hk
        clear hr3
        refine lv_icmp_eq (tgt := 88) hx hb dX11_layVelocities_31 (by decide) (fun c1 => ?_) (fun c1 => ?_)
        · have hr := br_p c1 hr
          obtain ⟨e1, e2⟩ := Prod.mk.inj (Option.some.inj hr)
          subst e1
          subst e2
          exact hj88_8 _ _ _ hW (lv_sub hl [1, 3, 2] rfl)
        · have hr := br_n c1 hr
          refine lv_iload_n hx hb dX11_layVelocities_34 rfl (lv_at hl 2 rfl) ?_
          refine lv_istore (lv' := [(4, .int x1_1), (3, .int x3_6), (0, .ref (ad 0)), (1, .int x1_1), (2, .int x2_2)]) hx hb dX11_layVelocities_35 hl (by decide) rfl (fun ls hl => ?_)
          have hL37_2 : ∀ (n : Nat) (x4_9 : Int32) (M_10 : Mm) (H : Heap) (locs : List Loc) (ls : Array Slot) (x4_11 : Int32) (M_12 : Mm), Xw D false cA ad M_10 (AX false ad) s.heap H locs → lv_has ls 5 [(3, .int x3_6), (0, .ref (ad 0)), (1, .int x1_1), (2, .int x2_2), (4, .int x4_9)] → f_X11_layVelocities_L37 x3_6 n x4_9 M_10 = some (x4_11, M_12) → (∀ (H : Heap) (locs : List Loc) (ls : Array Slot), Xw D false cA ad M_12 (AX false ad) s.heap H locs → lv_has ls 5 [(3, .int x3_6), (0, .ref (ad 0)), (1, .int x1_1), (2, .int x2_2), (4, .int x4_11)] → W p l e (headSpec wsX11_layVelocities { frames := 0, cells := 0, slots := 0, locals := 0 }).room s m args below meth c H locs 0 0 (MQ below (QiX false D false cA ad r M') args s 0 0 (AX false ad)) (F0 m 77 ls [])) → W p l e (headSpec wsX11_layVelocities { frames := 0, cells := 0, slots := 0, locals := 0 }).room s m args below meth c H locs 0 0 (MQ below (QiX false D false cA ad r M') args s 0 0 (AX false ad)) (F0 m 37 ls []) := by
            intro n
            induction n with
            | zero =>
              intro x4_9 M_10 H locs ls x4_11 M_12 hW hl hr hk
              exact absurd hr (by simp [f_X11_layVelocities_L37])
            | succ n ih =>
              intro x4_9 M_10 H locs ls x4_11 M_12 hW hl hr hk
              rw [f_X11_layVelocities_L37] at hr
              refine lv_iload hx hb dX11_layVelocities_37 (lv_at hl 4 rfl) ?_
              refine lv_if_le (tgt := 77) hx hb dX11_layVelocities_39 (by decide) (fun c1 => ?_) (fun c1 => ?_)
              · have hr := br_p c1 hr
                obtain ⟨e1, e2⟩ := Prod.mk.inj (Option.some.inj hr)
                subst e1
                subst e2
                exact hk _ _ _ hW (lv_sub hl [0, 1, 2, 3, 4] rfl)
              · have hr := br_n c1 hr
                refine lv_aload_n hx hb dX11_layVelocities_42 rfl (lv_at hl 1 rfl) ?_
                refine g11_24 hx hb hts hi11 hown hK hW (k := 0) rfl (hts _ (wm 3 rfl)) dX11_layVelocities_43 ?_
                refine lv_iload hx hb dX11_layVelocities_46 (lv_at hl 4 rfl) ?_
                refine lv_iconst (v := (1 : Int32)) hx hb dX11_layVelocities_48 (by decide) ?_
                refine lv_isub hx hb dX11_layVelocities_49 ?_
                obtain ⟨hn50, hr⟩ := chk_e hr
                refine xiald hx hb hK hW (k := 16) (t := 28) rfl (by decide) (by decide) rfl (n := 12) hn50 (jx := (ix (x4_9 - (1 : Int32)))) rfl dX11_layVelocities_50 ?_
                refine lv_iload_n hx hb dX11_layVelocities_51 rfl (lv_at hl 0 rfl) ?_
                refine lv_icmp_le (tgt := 77) hx hb dX11_layVelocities_52 (by decide) (fun c1 => ?_) (fun c1 => ?_)
                · have hr := br_p c1 hr
                  obtain ⟨e1, e2⟩ := Prod.mk.inj (Option.some.inj hr)
                  subst e1
                  subst e2
                  exact hk _ _ _ hW (lv_sub hl [0, 1, 2, 3, 4] rfl)
                · have hr := br_n c1 hr
                  refine lv_aload_n hx hb dX11_layVelocities_55 rfl (lv_at hl 1 rfl) ?_
                  refine g11_24 hx hb hts hi11 hown hK hW (k := 0) rfl (hts _ (wm 3 rfl)) dX11_layVelocities_56 ?_
                  refine lv_iload hx hb dX11_layVelocities_59 (lv_at hl 4 rfl) ?_
                  refine lv_aload_n hx hb dX11_layVelocities_61 rfl (lv_at hl 1 rfl) ?_
                  refine g11_24 hx hb hts hi11 hown hK hW (k := 0) rfl (hts _ (wm 3 rfl)) dX11_layVelocities_62 ?_
                  refine lv_iload hx hb dX11_layVelocities_65 (lv_at hl 4 rfl) ?_
                  refine lv_iconst (v := (1 : Int32)) hx hb dX11_layVelocities_67 (by decide) ?_
                  refine lv_isub hx hb dX11_layVelocities_68 ?_
                  obtain ⟨hn69, hr⟩ := chk_e hr
                  refine xiald hx hb hK hW (k := 16) (t := 28) rfl (by decide) (by decide) rfl (n := 12) hn69 (jx := (ix (x4_9 - (1 : Int32)))) rfl dX11_layVelocities_69 ?_
                  obtain ⟨hn70, hr⟩ := chk_e hr
                  obtain ⟨M_13, eM_13, hr⟩ := lt1_e hr
                  refine xiast hx hb hK hW (k := 16) (t := 28) rfl (by decide) (by decide) rfl (n := 12) hn70 (jx := (ix x4_9)) rfl dX11_layVelocities_70 (fun H locs hW => ?_)
                  rw [← eM_13] at hW
                  obtain ⟨x4_14, ex4_14, hr⟩ := lt1_e hr
                  refine lv_iinc (v := x4_14) (lv' := [(4, .int x4_14), (3, .int x3_6), (0, .ref (ad 0)), (1, .int x1_1), (2, .int x2_2)]) hx hb dX11_layVelocities_71 hl (k := 4) rfl (by rw [ex4_14]; rfl) (by decide) rfl (fun ls hl => ?_)
                  refine lv_goto (tgt := 37) hx hb dX11_layVelocities_74 (by decide) ?_
                  exact ih x4_14 M_13 _ _ _ hW (lv_sub hl [1, 2, 3, 4, 0] rfl) _ _ hr hk
          obtain ⟨x4_11, M_12, hr, hr3⟩ := ob2_e hr
          refine hL37_2 1000 x1_1 M_3 _ _ _ x4_11 M_12 hW (lv_sub hl [1, 2, 3, 4, 0] rfl) hr (fun H locs ls hW hl => ?_)
          clear hr
          have hr := hr3
          refine lv_aload_n hx hb dX11_layVelocities_77 rfl (lv_at hl 1 rfl) ?_
          refine g11_24 hx hb hts hi11 hown hK hW (k := 0) rfl (hts _ (wm 3 rfl)) dX11_layVelocities_78 ?_
          refine lv_iload hx hb dX11_layVelocities_81 (lv_at hl 4 rfl) ?_
          refine lv_iload_n hx hb dX11_layVelocities_83 rfl (lv_at hl 0 rfl) ?_
          obtain ⟨hn84, hr⟩ := chk_e hr
          obtain ⟨M_15, eM_15, hr⟩ := lt1_e hr
          refine xiast hx hb hK hW (k := 16) (t := 28) rfl (by decide) (by decide) rfl (n := 12) hn84 (jx := (ix x4_11)) rfl dX11_layVelocities_84 (fun H locs hW => ?_)
          rw [← eM_15] at hW
          obtain ⟨x1_16, ex1_16, hr⟩ := lt1_e hr
          refine lv_iinc (v := x1_16) (lv' := [(1, .int x1_16), (3, .int x3_6), (0, .ref (ad 0)), (2, .int x2_2), (4, .int x4_11)]) hx hb dX11_layVelocities_85 hl (k := 2) rfl (by rw [ex1_16]; rfl) (by decide) rfl (fun ls hl => ?_)
          obtain ⟨e1, e2⟩ := Prod.mk.inj (Option.some.inj hr)
          subst e1
          subst e2
          exact hj88_8 _ _ _ hW (lv_sub hl [2, 3, 0] rfl)
  obtain ⟨x1_4, M_5, hr, hr3⟩ := ob2_e hr
  refine hL4_1 1000 (0 : Int32) (0 : Int32) M _ _ _ x1_4 M_5 hW (lv_sub hl [2, 1, 0] rfl) hr (fun H locs ls hW hl => ?_)
  clear hr
  have hr := hr3
  refine lv_iload_n hx hb dX11_layVelocities_94 rfl (lv_at hl 0 rfl) ?_
  obtain ⟨e1, e2⟩ := Prod.mk.inj (Option.some.inj hr)
  rw [← e1, ← e2]
  exact xiret hx hb hr0 hlocks hW adR_rf dX11_layVelocities_95

set_option maxHeartbeats 4000000 in
set_option maxRecDepth 100000 in
theorem c_X11_statistic (l : Launch) (D : va_G) (cA : Nat → ClassId) (ad : Nat → Nat) (M : Mm) (x1 : Int32) {r : Int32} {M' : Mm} (hr : f_X11_statistic x1 M = some (r, M')) : Met l yX11_statistic wsX11_statistic ({ frames := 1, cells := 0, slots := 0, locals := 24 }) (PcX D false cA ad M [.ref (ad 0), .int x1]) (QiX false D false cA ad r M') 0 0 (AX false ad) := by
  refine Met.ofW (cc := cX11_statistic) (maxL := 6) (ret := (some .int)) (by decide) rfl ?_
  intro p e s m args below meth c s₁ B hml hv
  obtain ⟨rfl, hP0, hK⟩ := hv
  have hx := B.exec
  have hb := B.bytes
  have hr0 := B.returns
  have hts := atoms_spec (ws := wsX11_statistic) B.pre
  have hown : s.vm.findClass RX11 = some m.cls := findClass_of_methodNamed B.named
  have hlocks := B.notSynchronized
  have hW := xstart hP0
  have hi11 : ∀ w ∈ wsX110, w ∈ wsX11_statistic := fun w h => List.mem_cons_of_mem _ (List.mem_append_right _ h)
  have hl := lv_entry ([.ref (ad 0), .int x1]) (n := 6) (Nat.le_of_ble_eq_true rfl)
  rw [lg_entry_eq]
  generalize (lg_sl ([.ref (ad 0), .int x1]) ++ List.replicate (6 - (lg_sl ([.ref (ad 0), .int x1])).length) Slot.unset).toArray = ls at hl ⊢
  have hl : lv_has ls 6 [(0, .ref (ad 0)), (1, .int x1)] := hl
  clear hP0
  unfold f_X11_statistic at hr
  refine lv_iload_n hx hb dX11_statistic_0 rfl (lv_at hl 1 rfl) ?_
  refine lv_iconst (v := (0 : Int32)) hx hb dX11_statistic_1 (by decide) ?_
  refine lv_iconst (v := (4 : Int32)) hx hb dX11_statistic_2 (by decide) ?_
  obtain ⟨r_1, hc3, hr⟩ := ob1_e hr
  refine xk_i (va_runS (As := [.int x1, .int (0 : Int32), .int (4 : Int32)]) (rest := []) ⟨hx, hb, hml, hown, hts⟩ (c_X11_in l D cA ad M x1 (0 : Int32) (4 : Int32) hc3) (va_cwS 3 hts gX11_statistic_X11_in rfl rfl rfl (by decide +kernel) ⟨Nat.le_of_ble_eq_true rfl, Nat.le_of_ble_eq_true rfl⟩) (xpreS hK hW) rfl rfl hl.1 rfl (lv_room (Nat.le_of_ble_eq_true rfl)) dX11_statistic_3 ⟨Nat.le_of_ble_eq_true rfl, Nat.le_of_ble_eq_true rfl⟩) hW (fun H locs hW => ?_)
  refine lv_if_ne (tgt := 12) hx hb dX11_statistic_6 (by decide) (fun c1 => ?_) (fun c1 => ?_)
  · have hr := br_n c1 hr
    refine lv_aload_n hx hb dX11_statistic_12 rfl (lv_at hl 0 rfl) ?_
    obtain ⟨r_3, M_2, hc13, hr⟩ := ob2_e hr
    refine xk_i (va_runV (As := []) (rest := []) ⟨hx, hb, hml, hown, hts⟩ (c_X11_layVelocities l D cA ad M hc13) (cwV 0 hts gX11_statistic_X11_layVelocities rfl rfl rfl (by decide +kernel) ⟨Nat.le_of_ble_eq_true rfl, Nat.le_of_ble_eq_true rfl⟩) (xpreV hK hW (k := 0) rfl (by decide) rfl) rfl rfl hl.1 rfl (lv_room (Nat.le_of_ble_eq_true rfl)) dX11_statistic_13 ⟨Nat.le_of_ble_eq_true rfl, Nat.le_of_ble_eq_true rfl⟩) hW (fun H locs hW => ?_)
    refine lv_istore_n (lv' := [(2, .int r_3), (0, .ref (ad 0)), (1, .int x1)]) hx hb dX11_statistic_16 rfl hl (by decide) rfl (fun ls hl => ?_)
    refine lv_iload_n hx hb dX11_statistic_17 rfl (lv_at hl 2 rfl) ?_
    refine lv_if_eq (tgt := 25) hx hb dX11_statistic_18 (by decide) (fun c1 => ?_) (fun c1 => ?_)
    · have hr := br_p c1 hr
      refine lv_iload_n hx hb dX11_statistic_25 rfl (lv_at hl 2 rfl) ?_
      refine lv_if_ne (tgt := 33) hx hb dX11_statistic_26 (by decide) (fun c1 => ?_) (fun c1 => ?_)
      · have hr := br_n c1 hr
        refine lv_ldc (v := (-2000000005 : Int32)) hx hb hown (hts _ (wm 2 rfl)) dX11_statistic_33 ?_
        obtain ⟨e1, e2⟩ := Prod.mk.inj (Option.some.inj hr)
        rw [← e1, ← e2]
        exact xiret hx hb hr0 hlocks hW adR_rf dX11_statistic_35
      · have hr := br_p c1 hr
        refine lv_iload_n hx hb dX11_statistic_29 rfl (lv_at hl 0 rfl) ?_
        refine lv_goto (tgt := 35) hx hb dX11_statistic_30 (by decide) ?_
        obtain ⟨e1, e2⟩ := Prod.mk.inj (Option.some.inj hr)
        rw [← e1, ← e2]
        exact xiret hx hb hr0 hlocks hW adR_rf dX11_statistic_35
    · have hr := br_n c1 hr
      refine lv_iload_n hx hb dX11_statistic_21 rfl (lv_at hl 0 rfl) ?_
      refine lv_if_ne (tgt := 36) hx hb dX11_statistic_22 (by decide) (fun c1 => ?_) (fun c1 => ?_)
      · have hr := br_n c1 hr
        refine lv_lconst (v := (0 : Int64)) hx hb dX11_statistic_36 (by decide) ?_
        refine lv_lstore_n (lv' := [(3, .long (0 : Int64)), (2, .int r_3), (0, .ref (ad 0)), (1, .int x1)]) hx hb dX11_statistic_37 rfl hl (by decide) rfl (fun ls hl => ?_)
        refine lv_iconst (v := (0 : Int32)) hx hb dX11_statistic_38 (by decide) ?_
        refine lv_istore (lv' := [(5, .int (0 : Int32)), (3, .long (0 : Int64)), (2, .int r_3), (0, .ref (ad 0)), (1, .int x1)]) hx hb dX11_statistic_39 hl (by decide) rfl (fun ls hl => ?_)
        have hL41_1 : ∀ (n : Nat) (x3_4 : Int64) (x5_5 : Int32) (H : Heap) (locs : List Loc) (ls : Array Slot) (x3_6 : Int64), Xw D false cA ad M_2 (AX false ad) s.heap H locs → lv_has ls 6 [(2, .int r_3), (0, .ref (ad 0)), (1, .int x1), (3, .long x3_4), (5, .int x5_5)] → f_X11_statistic_L41 M_2 r_3 n x3_4 x5_5 = some x3_6 → (∀ (H : Heap) (locs : List Loc) (ls : Array Slot), Xw D false cA ad M_2 (AX false ad) s.heap H locs → lv_has ls 6 [(2, .int r_3), (0, .ref (ad 0)), (1, .int x1), (3, .long x3_6)] → W p l e (headSpec wsX11_statistic { frames := 1, cells := 0, slots := 0, locals := 24 }).room s m args below meth c H locs 0 0 (MQ below (QiX false D false cA ad r M') args s 0 0 (AX false ad)) (F0 m 64 ls [])) → W p l e (headSpec wsX11_statistic { frames := 1, cells := 0, slots := 0, locals := 24 }).room s m args below meth c H locs 0 0 (MQ below (QiX false D false cA ad r M') args s 0 0 (AX false ad)) (F0 m 41 ls []) := by
          intro n
          induction n with
          | zero =>
            intro x3_4 x5_5 H locs ls x3_6 hW hl hr hk
            exact absurd hr (by simp [f_X11_statistic_L41])
          | succ n ih =>
            intro x3_4 x5_5 H locs ls x3_6 hW hl hr hk
            rw [f_X11_statistic_L41] at hr
            refine lv_iload hx hb dX11_statistic_41 (lv_at hl 4 rfl) ?_
            refine lv_iload_n hx hb dX11_statistic_43 rfl (lv_at hl 0 rfl) ?_
            refine lv_icmp_ge (tgt := 64) hx hb dX11_statistic_44 (by decide) (fun c1 => ?_) (fun c1 => ?_)
            · have hr := br_p c1 hr
              have e1 := Option.some.inj hr
              subst e1
              exact hk _ _ _ hW (lv_sub hl [0, 1, 2, 3] rfl)
            · have hr := br_n c1 hr
              refine lv_lload_n hx hb dX11_statistic_47 rfl (lv_at hl 3 rfl) ?_
              refine lv_aload_n hx hb dX11_statistic_48 rfl (lv_at hl 1 rfl) ?_
              refine g11_24 hx hb hts hi11 hown hK hW (k := 0) rfl (hts _ (wm 3 rfl)) dX11_statistic_49 ?_
              refine lv_iload hx hb dX11_statistic_52 (lv_at hl 4 rfl) ?_
              obtain ⟨hn54, hr⟩ := chk_e hr
              refine xiald hx hb hK hW (k := 16) (t := 28) rfl (by decide) (by decide) rfl (n := 12) hn54 (jx := (ix x5_5)) rfl dX11_statistic_54 ?_
              refine lv_i2l hx hb dX11_statistic_55 rfl ?_
              refine lv_ladd hx hb dX11_statistic_56 ?_
              obtain ⟨x3_7, ex3_7, hr⟩ := lt1_e hr
              rw [← ex3_7]
              refine lv_lstore_n (lv' := [(3, .long x3_7), (2, .int r_3), (0, .ref (ad 0)), (1, .int x1), (5, .int x5_5)]) hx hb dX11_statistic_57 rfl hl (by decide) rfl (fun ls hl => ?_)
              obtain ⟨x5_8, ex5_8, hr⟩ := lt1_e hr
              refine lv_iinc (v := x5_8) (lv' := [(5, .int x5_8), (3, .long x3_7), (2, .int r_3), (0, .ref (ad 0)), (1, .int x1)]) hx hb dX11_statistic_58 hl (k := 4) rfl (by rw [ex5_8]; rfl) (by decide) rfl (fun ls hl => ?_)
              refine lv_goto (tgt := 41) hx hb dX11_statistic_61 (by decide) ?_
              exact ih x3_7 x5_8 _ _ _ hW (lv_sub hl [2, 3, 4, 1, 0] rfl) _ hr hk
        obtain ⟨x3_6, hr, hr3⟩ := ob1_e hr
        refine hL41_1 1000 (0 : Int64) (0 : Int32) _ _ _ x3_6 hW (lv_sub hl [2, 3, 4, 1, 0] rfl) hr (fun H locs ls hW hl => ?_)
        clear hr
        have hr := hr3
        refine lv_iload_n hx hb dX11_statistic_64 rfl (lv_at hl 2 rfl) ?_
        by_cases c65_0 : x1 = (1 : Int32)
        · have hr := br_p c65_0 hr
          refine lv_tableIn (tgt := 92) hx hb dX11_statistic_65 (by rw [c65_0]; decide) (by rw [c65_0]; decide) (off := 27) (by rw [c65_0]; decide) (by decide) ?_
          refine lv_aload_n hx hb dX11_statistic_92 rfl (lv_at hl 1 rfl) ?_
          refine g11_24 hx hb hts hi11 hown hK hW (k := 0) rfl (hts _ (wm 3 rfl)) dX11_statistic_93 ?_
          refine lv_iconst (v := (0 : Int32)) hx hb dX11_statistic_96 (by decide) ?_
          refine xiald hx hb hK hW (k := 16) (t := 28) rfl (by decide) (by decide) rfl (n := 12) (by decide) (jx := 0) (by decide) dX11_statistic_97 ?_
          obtain ⟨e1, e2⟩ := Prod.mk.inj (Option.some.inj hr)
          rw [← e1, ← e2]
          exact xiret hx hb hr0 hlocks hW adR_rf dX11_statistic_98
        · have hr := br_n c65_0 hr
          by_cases c65_1 : x1 = (2 : Int32)
          · have hr := br_p c65_1 hr
            refine lv_tableIn (tgt := 99) hx hb dX11_statistic_65 (by rw [c65_1]; decide) (by rw [c65_1]; decide) (off := 34) (by rw [c65_1]; decide) (by decide) ?_
            refine lv_aload_n hx hb dX11_statistic_99 rfl (lv_at hl 1 rfl) ?_
            refine g11_24 hx hb hts hi11 hown hK hW (k := 0) rfl (hts _ (wm 3 rfl)) dX11_statistic_100 ?_
            refine lv_iload_n hx hb dX11_statistic_103 rfl (lv_at hl 0 rfl) ?_
            refine lv_iconst (v := (1 : Int32)) hx hb dX11_statistic_104 (by decide) ?_
            refine lv_isub hx hb dX11_statistic_105 ?_
            obtain ⟨hn106, hr⟩ := chk_e hr
            refine xiald hx hb hK hW (k := 16) (t := 28) rfl (by decide) (by decide) rfl (n := 12) hn106 (jx := (ix (r_3 - (1 : Int32)))) rfl dX11_statistic_106 ?_
            obtain ⟨e1, e2⟩ := Prod.mk.inj (Option.some.inj hr)
            rw [← e1, ← e2]
            exact xiret hx hb hr0 hlocks hW adR_rf dX11_statistic_107
          · have hr := br_n c65_1 hr
            by_cases c65_2 : x1 = (3 : Int32)
            · have hr := br_p c65_2 hr
              refine lv_tableIn (tgt := 108) hx hb dX11_statistic_65 (by rw [c65_2]; decide) (by rw [c65_2]; decide) (off := 43) (by rw [c65_2]; decide) (by decide) ?_
              refine lv_lload_n hx hb dX11_statistic_108 rfl (lv_at hl 3 rfl) ?_
              refine lv_iload_n hx hb dX11_statistic_109 rfl (lv_at hl 0 rfl) ?_
              refine lv_i2l hx hb dX11_statistic_110 rfl ?_
              obtain ⟨hc111, hr⟩ := chk_e hr
              refine lv_ldiv hx hb dX11_statistic_111 (of_decide_eq_true hc111) ?_
              refine lv_l2i hx hb dX11_statistic_112 rfl ?_
              obtain ⟨e1, e2⟩ := Prod.mk.inj (Option.some.inj hr)
              rw [← e1, ← e2]
              exact xiret hx hb hr0 hlocks hW adR_rf dX11_statistic_113
            · have hr := br_n c65_2 hr
              have hsw : x1.toInt < 1 ∨ 3 < x1.toInt := by
                have hsw0 := lv_neT c65_0 (a := 1) rfl
                have hsw1 := lv_neT c65_1 (a := 2) rfl
                have hsw2 := lv_neT c65_2 (a := 3) rfl
                omega
              refine lv_tableOut (tgt := 114) hx hb dX11_statistic_65 hsw (by decide) ?_
              refine lv_iload_n hx hb dX11_statistic_114 rfl (lv_at hl 0 rfl) ?_
              refine lv_iconst (v := (2 : Int32)) hx hb dX11_statistic_115 (by decide) ?_
              refine lv_irem hx hb dX11_statistic_116 (by decide) ?_
              refine lv_iconst (v := (1 : Int32)) hx hb dX11_statistic_117 (by decide) ?_
              refine lv_icmp_ne (tgt := 132) hx hb dX11_statistic_118 (by decide) (fun c1 => ?_) (fun c1 => ?_)
              · have hr := br_n c1 hr
                refine lv_aload_n hx hb dX11_statistic_132 rfl (lv_at hl 1 rfl) ?_
                refine g11_24 hx hb hts hi11 hown hK hW (k := 0) rfl (hts _ (wm 3 rfl)) dX11_statistic_133 ?_
                refine lv_iload_n hx hb dX11_statistic_136 rfl (lv_at hl 0 rfl) ?_
                refine lv_iconst (v := (2 : Int32)) hx hb dX11_statistic_137 (by decide) ?_
                refine lv_idiv hx hb dX11_statistic_138 (by decide) ?_
                refine lv_iconst (v := (1 : Int32)) hx hb dX11_statistic_139 (by decide) ?_
                refine lv_isub hx hb dX11_statistic_140 ?_
                obtain ⟨hn141, hr⟩ := chk_e hr
                refine xiald hx hb hK hW (k := 16) (t := 28) rfl (by decide) (by decide) rfl (n := 12) hn141 (jx := (ix ((r_3 / (2 : Int32)) - (1 : Int32)))) rfl dX11_statistic_141 ?_
                refine lv_aload_n hx hb dX11_statistic_142 rfl (lv_at hl 1 rfl) ?_
                refine g11_24 hx hb hts hi11 hown hK hW (k := 0) rfl (hts _ (wm 3 rfl)) dX11_statistic_143 ?_
                refine lv_iload_n hx hb dX11_statistic_146 rfl (lv_at hl 0 rfl) ?_
                refine lv_iconst (v := (2 : Int32)) hx hb dX11_statistic_147 (by decide) ?_
                refine lv_idiv hx hb dX11_statistic_148 (by decide) ?_
                obtain ⟨hn149, hr⟩ := chk_e hr
                refine xiald hx hb hK hW (k := 16) (t := 28) rfl (by decide) (by decide) rfl (n := 12) hn149 (jx := (ix (r_3 / (2 : Int32)))) rfl dX11_statistic_149 ?_
                refine lv_iadd hx hb dX11_statistic_150 ?_
                refine lv_iconst (v := (2 : Int32)) hx hb dX11_statistic_151 (by decide) ?_
                refine lv_idiv hx hb dX11_statistic_152 (by decide) ?_
                obtain ⟨e1, e2⟩ := Prod.mk.inj (Option.some.inj hr)
                rw [← e1, ← e2]
                exact xiret hx hb hr0 hlocks hW adR_rf dX11_statistic_153
              · have hr := br_p c1 hr
                refine lv_aload_n hx hb dX11_statistic_121 rfl (lv_at hl 1 rfl) ?_
                refine g11_24 hx hb hts hi11 hown hK hW (k := 0) rfl (hts _ (wm 3 rfl)) dX11_statistic_122 ?_
                refine lv_iload_n hx hb dX11_statistic_125 rfl (lv_at hl 0 rfl) ?_
                refine lv_iconst (v := (2 : Int32)) hx hb dX11_statistic_126 (by decide) ?_
                refine lv_idiv hx hb dX11_statistic_127 (by decide) ?_
                obtain ⟨hn128, hr⟩ := chk_e hr
                refine xiald hx hb hK hW (k := 16) (t := 28) rfl (by decide) (by decide) rfl (n := 12) hn128 (jx := (ix (r_3 / (2 : Int32)))) rfl dX11_statistic_128 ?_
                refine lv_goto (tgt := 153) hx hb dX11_statistic_129 (by decide) ?_
                obtain ⟨e1, e2⟩ := Prod.mk.inj (Option.some.inj hr)
                rw [← e1, ← e2]
                exact xiret hx hb hr0 hlocks hW adR_rf dX11_statistic_153
      · have hr := br_p c1 hr
        refine lv_iload_n hx hb dX11_statistic_25 rfl (lv_at hl 2 rfl) ?_
        refine lv_if_ne (tgt := 33) hx hb dX11_statistic_26 (by decide) (fun c1 => ?_) (fun c1 => ?_)
        · have hr := br_n c1 hr
          refine lv_ldc (v := (-2000000005 : Int32)) hx hb hown (hts _ (wm 2 rfl)) dX11_statistic_33 ?_
          obtain ⟨e1, e2⟩ := Prod.mk.inj (Option.some.inj hr)
          rw [← e1, ← e2]
          exact xiret hx hb hr0 hlocks hW adR_rf dX11_statistic_35
        · have hr := br_p c1 hr
          refine lv_iload_n hx hb dX11_statistic_29 rfl (lv_at hl 0 rfl) ?_
          refine lv_goto (tgt := 35) hx hb dX11_statistic_30 (by decide) ?_
          obtain ⟨e1, e2⟩ := Prod.mk.inj (Option.some.inj hr)
          rw [← e1, ← e2]
          exact xiret hx hb hr0 hlocks hW adR_rf dX11_statistic_35
  · have hr := br_p c1 hr
    refine lv_ldc (v := (-2000000002 : Int32)) hx hb hown (hts _ (wm 1 rfl)) dX11_statistic_9 ?_
    obtain ⟨e1, e2⟩ := Prod.mk.inj (Option.some.inj hr)
    rw [← e1, ← e2]
    exact xiret hx hb hr0 hlocks hW adR_rf dX11_statistic_11

set_option maxHeartbeats 4000000 in
set_option maxRecDepth 100000 in
theorem c_X11_isAhead (l : Launch) (D : va_G) (cA : Nat → ClassId) (ad : Nat → Nat) (M : Mm) (x1 : Int32) (x2 : Int32) {r : Int32} (hr : f_X11_isAhead x1 x2 M = some r) : Met l yX11_isAhead wsX11_isAhead ({ frames := 2, cells := 0, slots := 0, locals := 43 }) (PcX D false cA ad M [.ref (ad 0), .int x1, .int x2]) (QiX false D false cA ad r M) 0 0 (AX false ad) := by
  refine Met.ofW (cc := cX11_isAhead) (maxL := 5) (ret := (some .boolean)) (by decide) rfl ?_
  intro p e s m args below meth c s₁ B hml hv
  obtain ⟨rfl, hP0, hK⟩ := hv
  have hx := B.exec
  have hb := B.bytes
  have hr0 := B.returns
  have hts := atoms_spec (ws := wsX11_isAhead) B.pre
  have hown : s.vm.findClass RX11 = some m.cls := findClass_of_methodNamed B.named
  have hlocks := B.notSynchronized
  have hW := xstart hP0
  have hl := lv_entry ([.ref (ad 0), .int x1, .int x2]) (n := 5) (Nat.le_of_ble_eq_true rfl)
  rw [lg_entry_eq]
  generalize (lg_sl ([.ref (ad 0), .int x1, .int x2]) ++ List.replicate (5 - (lg_sl ([.ref (ad 0), .int x1, .int x2])).length) Slot.unset).toArray = ls at hl ⊢
  have hl : lv_has ls 5 [(0, .ref (ad 0)), (1, .int x1), (2, .int x2)] := hl
  clear hP0
  unfold f_X11_isAhead at hr
  refine lv_aload_n hx hb dX11_isAhead_0 rfl (lv_at hl 0 rfl) ?_
  refine lv_iload_n hx hb dX11_isAhead_1 rfl (lv_at hl 1 rfl) ?_
  obtain ⟨r_1, hc2, hr⟩ := ob1_e hr
  refine xk_i (va_runV (As := [.int x1]) (rest := []) ⟨hx, hb, hml, hown, hts⟩ (c_X11_fails l D cA ad M x1 hc2) (cwV 1 hts gX11_isAhead_X11_fails rfl rfl rfl (by decide +kernel) ⟨Nat.le_of_ble_eq_true rfl, Nat.le_of_ble_eq_true rfl⟩) (xpreV hK hW (k := 0) rfl (by decide) rfl) rfl rfl hl.1 rfl (lv_room (Nat.le_of_ble_eq_true rfl)) dX11_isAhead_2 ⟨Nat.le_of_ble_eq_true rfl, Nat.le_of_ble_eq_true rfl⟩) hW (fun H locs hW => ?_)
  refine lv_aload_n hx hb dX11_isAhead_5 rfl (lv_at hl 0 rfl) ?_
  refine lv_iload_n hx hb dX11_isAhead_6 rfl (lv_at hl 2 rfl) ?_
  obtain ⟨r_2, hc7, hr⟩ := ob1_e hr
  refine xk_i (va_runV (As := [.int x2]) (rest := [.int r_1]) ⟨hx, hb, hml, hown, hts⟩ (c_X11_fails l D cA ad M x2 hc7) (cwV 1 hts gX11_isAhead_X11_fails rfl rfl rfl (by decide +kernel) ⟨Nat.le_of_ble_eq_true rfl, Nat.le_of_ble_eq_true rfl⟩) (xpreV hK hW (k := 0) rfl (by decide) rfl) rfl rfl hl.1 rfl (lv_room (Nat.le_of_ble_eq_true rfl)) dX11_isAhead_7 ⟨Nat.le_of_ble_eq_true rfl, Nat.le_of_ble_eq_true rfl⟩) hW (fun H locs hW => ?_)
  refine lv_icmp_eq (tgt := 19) hx hb dX11_isAhead_10 (by decide) (fun c1 => ?_) (fun c1 => ?_)
  · have hr := br_p c1 hr
    refine lv_aload_n hx hb dX11_isAhead_19 rfl (lv_at hl 0 rfl) ?_
    refine lv_iload_n hx hb dX11_isAhead_20 rfl (lv_at hl 1 rfl) ?_
    refine lv_bipush (v := (10 : Int32)) hx hb dX11_isAhead_21 (by decide) ?_
    obtain ⟨r_3, hc23, hr⟩ := ob1_e hr
    refine xk_i (va_runV (As := [.int x1, .int (10 : Int32)]) (rest := []) ⟨hx, hb, hml, hown, hts⟩ (c_X11_of l D cA ad M x1 (10 : Int32) hc23) (cwV 2 hts gX11_isAhead_X11_of rfl rfl rfl (by decide +kernel) ⟨Nat.le_of_ble_eq_true rfl, Nat.le_of_ble_eq_true rfl⟩) (xpreV hK hW (k := 0) rfl (by decide) rfl) rfl rfl hl.1 rfl (lv_room (Nat.le_of_ble_eq_true rfl)) dX11_isAhead_23 ⟨Nat.le_of_ble_eq_true rfl, Nat.le_of_ble_eq_true rfl⟩) hW (fun H locs hW => ?_)
    refine lv_aload_n hx hb dX11_isAhead_26 rfl (lv_at hl 0 rfl) ?_
    refine lv_iload_n hx hb dX11_isAhead_27 rfl (lv_at hl 2 rfl) ?_
    refine lv_bipush (v := (10 : Int32)) hx hb dX11_isAhead_28 (by decide) ?_
    obtain ⟨r_4, hc30, hr⟩ := ob1_e hr
    refine xk_i (va_runV (As := [.int x2, .int (10 : Int32)]) (rest := [.int r_3]) ⟨hx, hb, hml, hown, hts⟩ (c_X11_of l D cA ad M x2 (10 : Int32) hc30) (cwV 2 hts gX11_isAhead_X11_of rfl rfl rfl (by decide +kernel) ⟨Nat.le_of_ble_eq_true rfl, Nat.le_of_ble_eq_true rfl⟩) (xpreV hK hW (k := 0) rfl (by decide) rfl) rfl rfl hl.1 rfl (lv_room (Nat.le_of_ble_eq_true rfl)) dX11_isAhead_30 ⟨Nat.le_of_ble_eq_true rfl, Nat.le_of_ble_eq_true rfl⟩) hW (fun H locs hW => ?_)
    refine lv_icmp_eq (tgt := 59) hx hb dX11_isAhead_33 (by decide) (fun c1 => ?_) (fun c1 => ?_)
    · have hr := br_p c1 hr
      refine lv_aload_n hx hb dX11_isAhead_59 rfl (lv_at hl 0 rfl) ?_
      refine lv_iload_n hx hb dX11_isAhead_60 rfl (lv_at hl 1 rfl) ?_
      refine lv_bipush (v := (11 : Int32)) hx hb dX11_isAhead_61 (by decide) ?_
      obtain ⟨r_5, hc63, hr⟩ := ob1_e hr
      refine xk_i (va_runV (As := [.int x1, .int (11 : Int32)]) (rest := []) ⟨hx, hb, hml, hown, hts⟩ (c_X11_of l D cA ad M x1 (11 : Int32) hc63) (cwV 2 hts gX11_isAhead_X11_of rfl rfl rfl (by decide +kernel) ⟨Nat.le_of_ble_eq_true rfl, Nat.le_of_ble_eq_true rfl⟩) (xpreV hK hW (k := 0) rfl (by decide) rfl) rfl rfl hl.1 rfl (lv_room (Nat.le_of_ble_eq_true rfl)) dX11_isAhead_63 ⟨Nat.le_of_ble_eq_true rfl, Nat.le_of_ble_eq_true rfl⟩) hW (fun H locs hW => ?_)
      refine lv_aload_n hx hb dX11_isAhead_66 rfl (lv_at hl 0 rfl) ?_
      refine lv_iload_n hx hb dX11_isAhead_67 rfl (lv_at hl 1 rfl) ?_
      refine lv_bipush (v := (12 : Int32)) hx hb dX11_isAhead_68 (by decide) ?_
      obtain ⟨r_6, hc70, hr⟩ := ob1_e hr
      refine xk_i (va_runV (As := [.int x1, .int (12 : Int32)]) (rest := [.int r_5]) ⟨hx, hb, hml, hown, hts⟩ (c_X11_of l D cA ad M x1 (12 : Int32) hc70) (cwV 2 hts gX11_isAhead_X11_of rfl rfl rfl (by decide +kernel) ⟨Nat.le_of_ble_eq_true rfl, Nat.le_of_ble_eq_true rfl⟩) (xpreV hK hW (k := 0) rfl (by decide) rfl) rfl rfl hl.1 rfl (lv_room (Nat.le_of_ble_eq_true rfl)) dX11_isAhead_70 ⟨Nat.le_of_ble_eq_true rfl, Nat.le_of_ble_eq_true rfl⟩) hW (fun H locs hW => ?_)
      refine lv_iadd hx hb dX11_isAhead_73 ?_
      obtain ⟨x3_7, ex3_7, hr⟩ := lt1_e hr
      rw [← ex3_7]
      refine lv_istore_n (lv' := [(3, .int x3_7), (0, .ref (ad 0)), (1, .int x1), (2, .int x2)]) hx hb dX11_isAhead_74 rfl hl (by decide) rfl (fun ls hl => ?_)
      refine lv_aload_n hx hb dX11_isAhead_75 rfl (lv_at hl 1 rfl) ?_
      refine lv_iload_n hx hb dX11_isAhead_76 rfl (lv_at hl 3 rfl) ?_
      refine lv_bipush (v := (11 : Int32)) hx hb dX11_isAhead_77 (by decide) ?_
      obtain ⟨r_8, hc79, hr⟩ := ob1_e hr
      refine xk_i (va_runV (As := [.int x2, .int (11 : Int32)]) (rest := []) ⟨hx, hb, hml, hown, hts⟩ (c_X11_of l D cA ad M x2 (11 : Int32) hc79) (cwV 2 hts gX11_isAhead_X11_of rfl rfl rfl (by decide +kernel) ⟨Nat.le_of_ble_eq_true rfl, Nat.le_of_ble_eq_true rfl⟩) (xpreV hK hW (k := 0) rfl (by decide) rfl) rfl rfl hl.1 rfl (lv_room (Nat.le_of_ble_eq_true rfl)) dX11_isAhead_79 ⟨Nat.le_of_ble_eq_true rfl, Nat.le_of_ble_eq_true rfl⟩) hW (fun H locs hW => ?_)
      refine lv_aload_n hx hb dX11_isAhead_82 rfl (lv_at hl 1 rfl) ?_
      refine lv_iload_n hx hb dX11_isAhead_83 rfl (lv_at hl 3 rfl) ?_
      refine lv_bipush (v := (12 : Int32)) hx hb dX11_isAhead_84 (by decide) ?_
      obtain ⟨r_9, hc86, hr⟩ := ob1_e hr
      refine xk_i (va_runV (As := [.int x2, .int (12 : Int32)]) (rest := [.int r_8]) ⟨hx, hb, hml, hown, hts⟩ (c_X11_of l D cA ad M x2 (12 : Int32) hc86) (cwV 2 hts gX11_isAhead_X11_of rfl rfl rfl (by decide +kernel) ⟨Nat.le_of_ble_eq_true rfl, Nat.le_of_ble_eq_true rfl⟩) (xpreV hK hW (k := 0) rfl (by decide) rfl) rfl rfl hl.1 rfl (lv_room (Nat.le_of_ble_eq_true rfl)) dX11_isAhead_86 ⟨Nat.le_of_ble_eq_true rfl, Nat.le_of_ble_eq_true rfl⟩) hW (fun H locs hW => ?_)
      refine lv_iadd hx hb dX11_isAhead_89 ?_
      obtain ⟨x4_10, ex4_10, hr⟩ := lt1_e hr
      rw [← ex4_10]
      refine lv_istore (lv' := [(4, .int x4_10), (3, .int x3_7), (0, .ref (ad 0)), (1, .int x1), (2, .int x2)]) hx hb dX11_isAhead_90 hl (by decide) rfl (fun ls hl => ?_)
      refine lv_iload_n hx hb dX11_isAhead_92 rfl (lv_at hl 1 rfl) ?_
      refine lv_iload hx hb dX11_isAhead_93 (lv_at hl 0 rfl) ?_
      refine lv_icmp_eq (tgt := 110) hx hb dX11_isAhead_95 (by decide) (fun c1 => ?_) (fun c1 => ?_)
      · have hr := br_p c1 hr
        refine lv_aload_n hx hb dX11_isAhead_110 rfl (lv_at hl 2 rfl) ?_
        refine lv_iload_n hx hb dX11_isAhead_111 rfl (lv_at hl 3 rfl) ?_
        refine lv_iconst (v := (2 : Int32)) hx hb dX11_isAhead_112 (by decide) ?_
        obtain ⟨r_11, hc113, hr⟩ := ob1_e hr
        refine xk_i (va_runV (As := [.int x1, .int (2 : Int32)]) (rest := []) ⟨hx, hb, hml, hown, hts⟩ (c_X11_of l D cA ad M x1 (2 : Int32) hc113) (cwV 2 hts gX11_isAhead_X11_of rfl rfl rfl (by decide +kernel) ⟨Nat.le_of_ble_eq_true rfl, Nat.le_of_ble_eq_true rfl⟩) (xpreV hK hW (k := 0) rfl (by decide) rfl) rfl rfl hl.1 rfl (lv_room (Nat.le_of_ble_eq_true rfl)) dX11_isAhead_113 ⟨Nat.le_of_ble_eq_true rfl, Nat.le_of_ble_eq_true rfl⟩) hW (fun H locs hW => ?_)
        refine lv_aload_n hx hb dX11_isAhead_116 rfl (lv_at hl 2 rfl) ?_
        refine lv_iload_n hx hb dX11_isAhead_117 rfl (lv_at hl 4 rfl) ?_
        refine lv_iconst (v := (2 : Int32)) hx hb dX11_isAhead_118 (by decide) ?_
        obtain ⟨r_12, hc119, hr⟩ := ob1_e hr
        refine xk_i (va_runV (As := [.int x2, .int (2 : Int32)]) (rest := [.int r_11]) ⟨hx, hb, hml, hown, hts⟩ (c_X11_of l D cA ad M x2 (2 : Int32) hc119) (cwV 2 hts gX11_isAhead_X11_of rfl rfl rfl (by decide +kernel) ⟨Nat.le_of_ble_eq_true rfl, Nat.le_of_ble_eq_true rfl⟩) (xpreV hK hW (k := 0) rfl (by decide) rfl) rfl rfl hl.1 rfl (lv_room (Nat.le_of_ble_eq_true rfl)) dX11_isAhead_119 ⟨Nat.le_of_ble_eq_true rfl, Nat.le_of_ble_eq_true rfl⟩) hW (fun H locs hW => ?_)
        refine lv_icmp_eq (tgt := 148) hx hb dX11_isAhead_122 (by decide) (fun c1 => ?_) (fun c1 => ?_)
        · have hr := br_p c1 hr
          refine lv_iload_n hx hb dX11_isAhead_148 rfl (lv_at hl 3 rfl) ?_
          refine lv_iload_n hx hb dX11_isAhead_149 rfl (lv_at hl 4 rfl) ?_
          refine lv_icmp_ge (tgt := 157) hx hb dX11_isAhead_150 (by decide) (fun c1 => ?_) (fun c1 => ?_)
          · have hr := br_p c1 hr
            refine lv_iconst (v := (0 : Int32)) hx hb dX11_isAhead_157 (by decide) ?_
            rw [← Option.some.inj hr]
            exact xzret hx hb hr0 hlocks hW adR_rf (by decide) dX11_isAhead_158
          · have hr := br_n c1 hr
            refine lv_iconst (v := (1 : Int32)) hx hb dX11_isAhead_153 (by decide) ?_
            refine lv_goto (tgt := 158) hx hb dX11_isAhead_154 (by decide) ?_
            rw [← Option.some.inj hr]
            exact xzret hx hb hr0 hlocks hW adR_rf (by decide) dX11_isAhead_158
        · have hr := br_n c1 hr
          refine lv_aload_n hx hb dX11_isAhead_125 rfl (lv_at hl 2 rfl) ?_
          refine lv_iload_n hx hb dX11_isAhead_126 rfl (lv_at hl 3 rfl) ?_
          refine lv_iconst (v := (2 : Int32)) hx hb dX11_isAhead_127 (by decide) ?_
          obtain ⟨r_13, hc128, hr⟩ := ob1_e hr
          refine xk_i (va_runV (As := [.int x1, .int (2 : Int32)]) (rest := []) ⟨hx, hb, hml, hown, hts⟩ (c_X11_of l D cA ad M x1 (2 : Int32) hc128) (cwV 2 hts gX11_isAhead_X11_of rfl rfl rfl (by decide +kernel) ⟨Nat.le_of_ble_eq_true rfl, Nat.le_of_ble_eq_true rfl⟩) (xpreV hK hW (k := 0) rfl (by decide) rfl) rfl rfl hl.1 rfl (lv_room (Nat.le_of_ble_eq_true rfl)) dX11_isAhead_128 ⟨Nat.le_of_ble_eq_true rfl, Nat.le_of_ble_eq_true rfl⟩) hW (fun H locs hW => ?_)
          refine lv_aload_n hx hb dX11_isAhead_131 rfl (lv_at hl 2 rfl) ?_
          refine lv_iload_n hx hb dX11_isAhead_132 rfl (lv_at hl 4 rfl) ?_
          refine lv_iconst (v := (2 : Int32)) hx hb dX11_isAhead_133 (by decide) ?_
          obtain ⟨r_14, hc134, hr⟩ := ob1_e hr
          refine xk_i (va_runV (As := [.int x2, .int (2 : Int32)]) (rest := [.int r_13]) ⟨hx, hb, hml, hown, hts⟩ (c_X11_of l D cA ad M x2 (2 : Int32) hc134) (cwV 2 hts gX11_isAhead_X11_of rfl rfl rfl (by decide +kernel) ⟨Nat.le_of_ble_eq_true rfl, Nat.le_of_ble_eq_true rfl⟩) (xpreV hK hW (k := 0) rfl (by decide) rfl) rfl rfl hl.1 rfl (lv_room (Nat.le_of_ble_eq_true rfl)) dX11_isAhead_134 ⟨Nat.le_of_ble_eq_true rfl, Nat.le_of_ble_eq_true rfl⟩) hW (fun H locs hW => ?_)
          refine lv_icmp_le (tgt := 144) hx hb dX11_isAhead_137 (by decide) (fun c1 => ?_) (fun c1 => ?_)
          · have hr := br_p c1 hr
            refine lv_iconst (v := (0 : Int32)) hx hb dX11_isAhead_144 (by decide) ?_
            refine lv_goto (tgt := 158) hx hb dX11_isAhead_145 (by decide) ?_
            rw [← Option.some.inj hr]
            exact xzret hx hb hr0 hlocks hW adR_rf (by decide) dX11_isAhead_158
          · have hr := br_n c1 hr
            refine lv_iconst (v := (1 : Int32)) hx hb dX11_isAhead_140 (by decide) ?_
            refine lv_goto (tgt := 158) hx hb dX11_isAhead_141 (by decide) ?_
            rw [← Option.some.inj hr]
            exact xzret hx hb hr0 hlocks hW adR_rf (by decide) dX11_isAhead_158
      · have hr := br_n c1 hr
        refine lv_iload_n hx hb dX11_isAhead_98 rfl (lv_at hl 1 rfl) ?_
        refine lv_iload hx hb dX11_isAhead_99 (lv_at hl 0 rfl) ?_
        refine lv_icmp_ge (tgt := 108) hx hb dX11_isAhead_101 (by decide) (fun c1 => ?_) (fun c1 => ?_)
        · have hr := br_p c1 hr
          refine lv_iconst (v := (0 : Int32)) hx hb dX11_isAhead_108 (by decide) ?_
          rw [← Option.some.inj hr]
          exact xzret hx hb hr0 hlocks hW adR_rf (by decide) dX11_isAhead_109
        · have hr := br_n c1 hr
          refine lv_iconst (v := (1 : Int32)) hx hb dX11_isAhead_104 (by decide) ?_
          refine lv_goto (tgt := 109) hx hb dX11_isAhead_105 (by decide) ?_
          rw [← Option.some.inj hr]
          exact xzret hx hb hr0 hlocks hW adR_rf (by decide) dX11_isAhead_109
    · have hr := br_n c1 hr
      refine lv_aload_n hx hb dX11_isAhead_36 rfl (lv_at hl 0 rfl) ?_
      refine lv_iload_n hx hb dX11_isAhead_37 rfl (lv_at hl 1 rfl) ?_
      refine lv_bipush (v := (10 : Int32)) hx hb dX11_isAhead_38 (by decide) ?_
      obtain ⟨r_15, hc40, hr⟩ := ob1_e hr
      refine xk_i (va_runV (As := [.int x1, .int (10 : Int32)]) (rest := []) ⟨hx, hb, hml, hown, hts⟩ (c_X11_of l D cA ad M x1 (10 : Int32) hc40) (cwV 2 hts gX11_isAhead_X11_of rfl rfl rfl (by decide +kernel) ⟨Nat.le_of_ble_eq_true rfl, Nat.le_of_ble_eq_true rfl⟩) (xpreV hK hW (k := 0) rfl (by decide) rfl) rfl rfl hl.1 rfl (lv_room (Nat.le_of_ble_eq_true rfl)) dX11_isAhead_40 ⟨Nat.le_of_ble_eq_true rfl, Nat.le_of_ble_eq_true rfl⟩) hW (fun H locs hW => ?_)
      refine lv_aload_n hx hb dX11_isAhead_43 rfl (lv_at hl 0 rfl) ?_
      refine lv_iload_n hx hb dX11_isAhead_44 rfl (lv_at hl 2 rfl) ?_
      refine lv_bipush (v := (10 : Int32)) hx hb dX11_isAhead_45 (by decide) ?_
      obtain ⟨r_16, hc47, hr⟩ := ob1_e hr
      refine xk_i (va_runV (As := [.int x2, .int (10 : Int32)]) (rest := [.int r_15]) ⟨hx, hb, hml, hown, hts⟩ (c_X11_of l D cA ad M x2 (10 : Int32) hc47) (cwV 2 hts gX11_isAhead_X11_of rfl rfl rfl (by decide +kernel) ⟨Nat.le_of_ble_eq_true rfl, Nat.le_of_ble_eq_true rfl⟩) (xpreV hK hW (k := 0) rfl (by decide) rfl) rfl rfl hl.1 rfl (lv_room (Nat.le_of_ble_eq_true rfl)) dX11_isAhead_47 ⟨Nat.le_of_ble_eq_true rfl, Nat.le_of_ble_eq_true rfl⟩) hW (fun H locs hW => ?_)
      refine lv_icmp_ge (tgt := 57) hx hb dX11_isAhead_50 (by decide) (fun c1 => ?_) (fun c1 => ?_)
      · have hr := br_p c1 hr
        refine lv_iconst (v := (0 : Int32)) hx hb dX11_isAhead_57 (by decide) ?_
        rw [← Option.some.inj hr]
        exact xzret hx hb hr0 hlocks hW adR_rf (by decide) dX11_isAhead_58
      · have hr := br_n c1 hr
        refine lv_iconst (v := (1 : Int32)) hx hb dX11_isAhead_53 (by decide) ?_
        refine lv_goto (tgt := 58) hx hb dX11_isAhead_54 (by decide) ?_
        rw [← Option.some.inj hr]
        exact xzret hx hb hr0 hlocks hW adR_rf (by decide) dX11_isAhead_58
  · have hr := br_n c1 hr
    refine lv_aload_n hx hb dX11_isAhead_13 rfl (lv_at hl 0 rfl) ?_
    refine lv_iload_n hx hb dX11_isAhead_14 rfl (lv_at hl 2 rfl) ?_
    obtain ⟨r_17, hc15, hr⟩ := ob1_e hr
    refine xk_i (va_runV (As := [.int x2]) (rest := []) ⟨hx, hb, hml, hown, hts⟩ (c_X11_fails l D cA ad M x2 hc15) (cwV 1 hts gX11_isAhead_X11_fails rfl rfl rfl (by decide +kernel) ⟨Nat.le_of_ble_eq_true rfl, Nat.le_of_ble_eq_true rfl⟩) (xpreV hK hW (k := 0) rfl (by decide) rfl) rfl rfl hl.1 rfl (lv_room (Nat.le_of_ble_eq_true rfl)) dX11_isAhead_15 ⟨Nat.le_of_ble_eq_true rfl, Nat.le_of_ble_eq_true rfl⟩) hW (fun H locs hW => ?_)
    obtain ⟨hz18, hr⟩ := chk_e hr
    rw [← Option.some.inj hr]
    exact xzret hx hb hr0 hlocks hW adR_rf hz18 dX11_isAhead_18

set_option maxHeartbeats 4000000 in
set_option maxRecDepth 100000 in
theorem c_X11_trust (l : Launch) (D : va_G) (cA : Nat → ClassId) (ad : Nat → Nat) (M : Mm) (x1 : Int32) {r : Int32} (hr : f_X11_trust x1 M = some r) : Met l yX11_trust wsX11_trust ({ frames := 3, cells := 0, slots := 0, locals := 67 }) (PcX D false cA ad M [.ref (ad 0), .int x1]) (QiX false D false cA ad r M) 0 0 (AX false ad) := by
  refine Met.ofW (cc := cX11_trust) (maxL := 5) (ret := (some .int)) (by decide) rfl ?_
  intro p e s m args below meth c s₁ B hml hv
  obtain ⟨rfl, hP0, hK⟩ := hv
  have hx := B.exec
  have hb := B.bytes
  have hr0 := B.returns
  have hts := atoms_spec (ws := wsX11_trust) B.pre
  have hown : s.vm.findClass RX11 = some m.cls := findClass_of_methodNamed B.named
  have hlocks := B.notSynchronized
  have hW := xstart hP0
  have hi11 : ∀ w ∈ wsX110, w ∈ wsX11_trust := fun w h => List.mem_cons_of_mem _ (List.mem_append_right _ h)
  have hl := lv_entry ([.ref (ad 0), .int x1]) (n := 5) (Nat.le_of_ble_eq_true rfl)
  rw [lg_entry_eq]
  generalize (lg_sl ([.ref (ad 0), .int x1]) ++ List.replicate (5 - (lg_sl ([.ref (ad 0), .int x1])).length) Slot.unset).toArray = ls at hl ⊢
  have hl : lv_has ls 5 [(0, .ref (ad 0)), (1, .int x1)] := hl
  clear hP0
  unfold f_X11_trust at hr
  refine lv_iload_n hx hb dX11_trust_0 rfl (lv_at hl 1 rfl) ?_
  refine lv_if_ge (tgt := 7) hx hb dX11_trust_1 (by decide) (fun c1 => ?_) (fun c1 => ?_)
  · have hr := br_p c1 hr
    refine lv_iconst (v := (0 : Int32)) hx hb dX11_trust_7 (by decide) ?_
    refine lv_istore_n (lv' := [(2, .int (0 : Int32)), (0, .ref (ad 0)), (1, .int x1)]) hx hb dX11_trust_8 rfl hl (by decide) rfl (fun ls hl => ?_)
    have hL9_1 : ∀ (n : Nat) (x2_1 : Int32) (H : Heap) (locs : List Loc) (ls : Array Slot), Xw D false cA ad M (AX false ad) s.heap H locs → lv_has ls 5 [(0, .ref (ad 0)), (1, .int x1), (2, .int x2_1)] → f_X11_trust_L9 M x1 n x2_1 = some r → W p l e (headSpec wsX11_trust { frames := 3, cells := 0, slots := 0, locals := 67 }).room s m args below meth c H locs 0 0 (MQ below (QiX false D false cA ad r M) args s 0 0 (AX false ad)) (F0 m 9 ls []) := by
      intro n
      induction n with
      | zero =>
        intro x2_1 H locs ls hW hl hr
        exact absurd hr (by simp [f_X11_trust_L9])
      | succ n ih =>
        intro x2_1 H locs ls hW hl hr
        rw [f_X11_trust_L9] at hr
        refine lv_iload_n hx hb dX11_trust_9 rfl (lv_at hl 2 rfl) ?_
        refine lv_aload_n hx hb dX11_trust_10 rfl (lv_at hl 0 rfl) ?_
        refine g11_0 hx hb hts hi11 hown hK hW (k := 0) rfl (hts _ (wm 2 rfl)) dX11_trust_11 ?_
        refine lv_bipush (v := (64 : Int32)) hx hb dX11_trust_14 (by decide) ?_
        refine xiald hx hb hK hW (k := 1) (t := 24) rfl (by decide) (by decide) rfl (n := 159) (by decide) (jx := 64) (by decide) dX11_trust_16 ?_
        refine lv_icmp_ge (tgt := 80) hx hb dX11_trust_17 (by decide) (fun c1 => ?_) (fun c1 => ?_)
        · have hr := br_p c1 hr
          refine lv_ldc (v := (-2000000005 : Int32)) hx hb hown (hts _ (wm 3 rfl)) dX11_trust_80 ?_
          rw [← Option.some.inj hr]
          exact xiret hx hb hr0 hlocks hW adR_rf dX11_trust_82
        · have hr := br_n c1 hr
          refine lv_iconst (v := (0 : Int32)) hx hb dX11_trust_20 (by decide) ?_
          refine lv_istore_n (lv' := [(3, .int (0 : Int32)), (0, .ref (ad 0)), (1, .int x1), (2, .int x2_1)]) hx hb dX11_trust_21 rfl hl (by decide) rfl (fun ls hl => ?_)
          refine lv_iconst (v := (0 : Int32)) hx hb dX11_trust_22 (by decide) ?_
          refine lv_istore (lv' := [(4, .int (0 : Int32)), (3, .int (0 : Int32)), (0, .ref (ad 0)), (1, .int x1), (2, .int x2_1)]) hx hb dX11_trust_23 hl (by decide) rfl (fun ls hl => ?_)
          have hL25_2 : ∀ (n : Nat) (x3_2 : Int32) (x4_3 : Int32) (H : Heap) (locs : List Loc) (ls : Array Slot) (x3_4 : Int32), Xw D false cA ad M (AX false ad) s.heap H locs → lv_has ls 5 [(0, .ref (ad 0)), (1, .int x1), (2, .int x2_1), (3, .int x3_2), (4, .int x4_3)] → f_X11_trust_L25 M x2_1 n x3_2 x4_3 = some x3_4 → (∀ (H : Heap) (locs : List Loc) (ls : Array Slot), Xw D false cA ad M (AX false ad) s.heap H locs → lv_has ls 5 [(0, .ref (ad 0)), (1, .int x1), (2, .int x2_1), (3, .int x3_4)] → W p l e (headSpec wsX11_trust { frames := 3, cells := 0, slots := 0, locals := 67 }).room s m args below meth c H locs 0 0 (MQ below (QiX false D false cA ad r M) args s 0 0 (AX false ad)) (F0 m 67 ls [])) → W p l e (headSpec wsX11_trust { frames := 3, cells := 0, slots := 0, locals := 67 }).room s m args below meth c H locs 0 0 (MQ below (QiX false D false cA ad r M) args s 0 0 (AX false ad)) (F0 m 25 ls []) := by
            intro n
            induction n with
            | zero =>
              intro x3_2 x4_3 H locs ls x3_4 hW hl hr hk
              exact absurd hr (by simp [f_X11_trust_L25])
            | succ n ih =>
              intro x3_2 x4_3 H locs ls x3_4 hW hl hr hk
              rw [f_X11_trust_L25] at hr
              refine lv_iload hx hb dX11_trust_25 (lv_at hl 4 rfl) ?_
              refine lv_aload_n hx hb dX11_trust_27 rfl (lv_at hl 0 rfl) ?_
              refine g11_0 hx hb hts hi11 hown hK hW (k := 0) rfl (hts _ (wm 2 rfl)) dX11_trust_28 ?_
              refine lv_bipush (v := (64 : Int32)) hx hb dX11_trust_31 (by decide) ?_
              refine xiald hx hb hK hW (k := 1) (t := 24) rfl (by decide) (by decide) rfl (n := 159) (by decide) (jx := 64) (by decide) dX11_trust_33 ?_
              refine lv_icmp_ge (tgt := 67) hx hb dX11_trust_34 (by decide) (fun c1 => ?_) (fun c1 => ?_)
              · have hr := br_p c1 hr
                have e1 := Option.some.inj hr
                subst e1
                exact hk _ _ _ hW (lv_sub hl [0, 1, 2, 3] rfl)
              · have hr := br_n c1 hr
                refine lv_iload_n hx hb dX11_trust_37 rfl (lv_at hl 3 rfl) ?_
                refine lv_iload hx hb dX11_trust_38 (lv_at hl 4 rfl) ?_
                refine lv_iload_n hx hb dX11_trust_40 rfl (lv_at hl 2 rfl) ?_
                obtain ⟨y_5, hr, hr3⟩ := ob1_e hr
                have hj59_5 : ∀ (H : Heap) (locs : List Loc) (ls : Array Slot), Xw D false cA ad M (AX false ad) s.heap H locs → lv_has ls 5 [(0, .ref (ad 0)), (1, .int x1), (2, .int x2_1), (4, .int x4_3)] → W p l e (headSpec wsX11_trust { frames := 3, cells := 0, slots := 0, locals := 67 }).room s m args below meth c H locs 0 0 (MQ below (QiX false D false cA ad r M) args s 0 0 (AX false ad)) (F0 m 59 ls [.int y_5, .int x3_2]) := by
                  intro H locs ls hW hl
                  have hr := hr3
                  refine lv_iadd hx hb dX11_trust_59 ?_
                  obtain ⟨x3_7, ex3_7, hr⟩ := lt1_e hr
                  rw [← ex3_7]
                  refine lv_istore_n (lv' := [(3, .int x3_7), (0, .ref (ad 0)), (1, .int x1), (2, .int x2_1), (4, .int x4_3)]) hx hb dX11_trust_60 rfl hl (by decide) rfl (fun ls hl => ?_)
                  obtain ⟨x4_8, ex4_8, hr⟩ := lt1_e hr
                  refine lv_iinc (v := x4_8) (lv' := [(4, .int x4_8), (3, .int x3_7), (0, .ref (ad 0)), (1, .int x1), (2, .int x2_1)]) hx hb dX11_trust_61 hl (k := 4) rfl (by rw [ex4_8]; rfl) (by decide) rfl (fun ls hl => ?_)
                  refine lv_goto (tgt := 25) hx hb dX11_trust_64 (by decide) ?_
                  exact ih x3_7 x4_8 _ _ _ hW (lv_sub hl [2, 3, 4, 1, 0] rfl) _ hr hk
                clear hr3
                refine lv_icmp_eq (tgt := 58) hx hb dX11_trust_41 (by decide) (fun c1 => ?_) (fun c1 => ?_)
                · have hr := br_p c1 hr
                  refine lv_iconst (v := (0 : Int32)) hx hb dX11_trust_58 (by decide) ?_
                  have e1 := Option.some.inj hr
                  subst e1
                  exact hj59_5 _ _ _ hW (lv_sub hl [0, 1, 2, 4] rfl)
                · have hr := br_n c1 hr
                  refine lv_aload_n hx hb dX11_trust_44 rfl (lv_at hl 0 rfl) ?_
                  refine lv_iload hx hb dX11_trust_45 (lv_at hl 4 rfl) ?_
                  refine lv_iload_n hx hb dX11_trust_47 rfl (lv_at hl 2 rfl) ?_
                  obtain ⟨r_6, hc48, hr⟩ := ob1_e hr
                  refine xk_i (va_runV (As := [.int x4_3, .int x2_1]) (rest := [.int x3_2]) ⟨hx, hb, hml, hown, hts⟩ (c_X11_isAhead l D cA ad M x4_3 x2_1 hc48) (cwV 2 hts gX11_trust_X11_isAhead rfl rfl rfl (by decide +kernel) ⟨Nat.le_of_ble_eq_true rfl, Nat.le_of_ble_eq_true rfl⟩) (xpreV hK hW (k := 0) rfl (by decide) rfl) rfl rfl hl.1 rfl (lv_room (Nat.le_of_ble_eq_true rfl)) dX11_trust_48 ⟨Nat.le_of_ble_eq_true rfl, Nat.le_of_ble_eq_true rfl⟩) hW (fun H locs hW => ?_)
                  refine lv_if_eq (tgt := 58) hx hb dX11_trust_51 (by decide) (fun c1 => ?_) (fun c1 => ?_)
                  · have hr := br_p c1 hr
                    refine lv_iconst (v := (0 : Int32)) hx hb dX11_trust_58 (by decide) ?_
                    have e1 := Option.some.inj hr
                    subst e1
                    exact hj59_5 _ _ _ hW (lv_sub hl [0, 1, 2, 4] rfl)
                  · have hr := br_n c1 hr
                    refine lv_iconst (v := (1 : Int32)) hx hb dX11_trust_54 (by decide) ?_
                    refine lv_goto (tgt := 59) hx hb dX11_trust_55 (by decide) ?_
                    have e1 := Option.some.inj hr
                    subst e1
                    exact hj59_5 _ _ _ hW (lv_sub hl [0, 1, 2, 4] rfl)
          obtain ⟨x3_4, hr, hr3⟩ := ob1_e hr
          refine hL25_2 1000 (0 : Int32) (0 : Int32) _ _ _ x3_4 hW (lv_sub hl [2, 3, 4, 1, 0] rfl) hr (fun H locs ls hW hl => ?_)
          clear hr
          have hr := hr3
          refine lv_iload_n hx hb dX11_trust_67 rfl (lv_at hl 3 rfl) ?_
          refine lv_iload_n hx hb dX11_trust_68 rfl (lv_at hl 1 rfl) ?_
          refine lv_icmp_ne (tgt := 74) hx hb dX11_trust_69 (by decide) (fun c1 => ?_) (fun c1 => ?_)
          · have hr := br_n c1 hr
            obtain ⟨x2_9, ex2_9, hr⟩ := lt1_e hr
            refine lv_iinc (v := x2_9) (lv' := [(2, .int x2_9), (0, .ref (ad 0)), (1, .int x1), (3, .int x3_4)]) hx hb dX11_trust_74 hl (k := 2) rfl (by rw [ex2_9]; rfl) (by decide) rfl (fun ls hl => ?_)
            refine lv_goto (tgt := 9) hx hb dX11_trust_77 (by decide) ?_
            exact ih x2_9 _ _ _ hW (lv_sub hl [1, 2, 0] rfl) hr
          · have hr := br_p c1 hr
            refine lv_iload_n hx hb dX11_trust_72 rfl (lv_at hl 2 rfl) ?_
            rw [← Option.some.inj hr]
            exact xiret hx hb hr0 hlocks hW adR_rf dX11_trust_73
    exact hL9_1 1000 (0 : Int32) _ _ _ hW (lv_sub hl [1, 2, 0] rfl) hr
  · have hr := br_n c1 hr
    refine lv_ldc (v := (-2000000002 : Int32)) hx hb hown (hts _ (wm 1 rfl)) dX11_trust_4 ?_
    rw [← Option.some.inj hr]
    exact xiret hx hb hr0 hlocks hW adR_rf dX11_trust_6

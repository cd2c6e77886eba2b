set_option maxHeartbeats 4000000 in
set_option maxRecDepth 100000 in
theorem c_X11_readAct (l : Launch) (D : va_G) (cA : Nat → ClassId) (ad : Nat → Nat) (M : Mm) {r : Int32} {M' : Mm} (hr : f_X11_readAct M = some (r, M')) : Met l yX11_readAct wsX11_readAct ({ frames := 2, cells := 0, slots := 0, locals := 47 }) (PcX D false cA ad M [.ref (ad 0)]) (QiX false D false cA ad r M') 0 0 (AX false ad) := by
  refine Met.ofW (cc := cX11_readAct) (maxL := 2) (ret := (some .boolean)) (by decide) rfl ?_
  intro p e s m args below meth c s₁ B hml hv
  obtain ⟨hav, hP0, hK⟩ := hv
  have hx := B.exec
  have hb := B.bytes
  have hr0 := B.returns
  have hts := atoms_spec (ws := wsX11_readAct) B.pre
  have hown : s.vm.findClass RX11 = some m.cls := findClass_of_methodNamed B.named
  have hlocks := B.notSynchronized
  have hW := xstart hP0
  have hi11 : ∀ w ∈ wsX110, w ∈ wsX11_readAct := fun w h => List.mem_cons_of_mem _ (List.mem_append_right _ h)
  have hl := lv_entry ([.ref (ad 0)]) (n := 2) (Nat.le_of_ble_eq_true rfl)
  have hef := lg_entry_eq m ([.ref (ad 0)]) 2
  rw [← hav] at hef
  rw [hef]
  clear hef
  generalize (lg_sl ([.ref (ad 0)]) ++ List.replicate (2 - (lg_sl ([.ref (ad 0)])).length) Slot.unset).toArray = ls at hl ⊢
  have hl : lv_has ls 2 [(0, .ref (ad 0))] := hl
  clear hP0
  unfold f_X11_readAct at hr
  refine lv_aload_n hx hb dX11_readAct_0 rfl (lv_at hl 0 rfl) ?_
  refine lv_aload_n hx hb dX11_readAct_1 rfl (lv_at hl 0 rfl) ?_
  obtain ⟨r_1, hc2, hr⟩ := ob1_e hr
  refine xk_i (va_runV (As := []) (rest := [.ref (ad 0)]) ⟨hx, hb, hml, hown, hts⟩ (c_X11_here l D cA ad M hc2) (cwV 0 hts gX11_readAct_X11_here rfl rfl rfl (by decide +kernel) ⟨Nat.le_of_ble_eq_true rfl, Nat.le_of_ble_eq_true rfl⟩) (xpreV hK hW (k := 0) rfl (by decide) rfl) rfl rfl hl.1 rfl (lv_room (Nat.le_of_ble_eq_true rfl)) dX11_readAct_2 ⟨Nat.le_of_ble_eq_true rfl, Nat.le_of_ble_eq_true rfl⟩) hW (fun H locs hW => ?_)
  obtain ⟨M_2, eM_2, hr⟩ := lt1_e hr
  refine p11_22 hx hb hts hi11 hown hK hW (k := 0) rfl (hts _ (wm 1 rfl)) dX11_readAct_5 (fun H locs hW => ?_)
  rw [← eM_2] at hW
  refine lv_aload_n hx hb dX11_readAct_8 rfl (lv_at hl 0 rfl) ?_
  refine g11_22 hx hb hts hi11 hown hK hW (k := 0) rfl (hts _ (wm 1 rfl)) dX11_readAct_9 ?_
  refine lv_bipush (v := (115 : Int32)) hx hb dX11_readAct_12 (by decide) ?_
  refine lv_icmp_eq (tgt := 37) hx hb dX11_readAct_14 (by decide) (fun c1 => ?_) (fun c1 => ?_)
  · have hr := br_p c1 hr
    refine lv_aload_n hx hb dX11_readAct_37 rfl (lv_at hl 0 rfl) ?_
    refine lv_dup hx hb dX11_readAct_38 rfl ?_
    refine g11_21 hx hb hts hi11 hown hK hW (k := 0) rfl (hts _ (wm 2 rfl)) dX11_readAct_39 ?_
    refine lv_iconst (v := (1 : Int32)) hx hb dX11_readAct_42 (by decide) ?_
    refine lv_iadd hx hb dX11_readAct_43 ?_
    obtain ⟨M_3, eM_3, hr⟩ := lt1_e hr
    refine p11_21 hx hb hts hi11 hown hK hW (k := 0) rfl (hts _ (wm 2 rfl)) dX11_readAct_44 (fun H locs hW => ?_)
    rw [← eM_3] at hW
    refine lv_aload_n hx hb dX11_readAct_47 rfl (lv_at hl 0 rfl) ?_
    refine g11_22 hx hb hts hi11 hown hK hW (k := 0) rfl (hts _ (wm 1 rfl)) dX11_readAct_48 ?_
    refine lv_bipush (v := (115 : Int32)) hx hb dX11_readAct_51 (by decide) ?_
    obtain ⟨y_4, M_5, hr, hr3⟩ := ob2_e hr
    have hj135_5 : ∀ (H : Heap) (locs : List Loc) (ls : Array Slot), Xw D false cA ad M_5 (AX false ad) s.heap H locs → lv_has ls 2 [(0, .ref (ad 0))] → W p l e (headSpec wsX11_readAct { frames := 2, cells := 0, slots := 0, locals := 47 }).room s m args below meth c H locs 0 0 (MQ below (QiX false D false cA ad r M') args s 0 0 (AX false ad)) (F0 m 135 ls [.int y_4]) := by
      intro H locs ls hW hl
      have hr := hr3
      refine lv_istore_n (lv' := [(1, .int y_4), (0, .ref (ad 0))]) hx hb dX11_readAct_135 rfl hl (by decide) rfl (fun ls hl => ?_)
      refine lv_iload_n hx hb dX11_readAct_136 rfl (lv_at hl 0 rfl) ?_
      refine lv_if_eq (tgt := 153) hx hb dX11_readAct_137 (by decide) (fun c1 => ?_) (fun c1 => ?_)
      · have hr := br_p c1 hr
        refine lv_iconst (v := (0 : Int32)) hx hb dX11_readAct_153 (by decide) ?_
        obtain ⟨e1, e2⟩ := Prod.mk.inj (Option.some.inj hr)
        rw [← e1, ← e2]
        exact xzret hx hb hr0 hlocks hW adR_rf (by decide) dX11_readAct_154
      · have hr := br_n c1 hr
        refine lv_aload_n hx hb dX11_readAct_140 rfl (lv_at hl 1 rfl) ?_
        refine lv_bipush (v := (59 : Int32)) hx hb dX11_readAct_141 (by decide) ?_
        obtain ⟨r_21, M_20, hc143, hr⟩ := ob2_e hr
        refine xk_i (va_runV (As := [.int (59 : Int32)]) (rest := []) ⟨hx, hb, hml, hown, hts⟩ (c_X11_passes l D cA ad M_5 (59 : Int32) hc143) (cwV 1 hts gX11_readAct_X11_passes rfl rfl rfl (by decide +kernel) ⟨Nat.le_of_ble_eq_true rfl, Nat.le_of_ble_eq_true rfl⟩) (xpreV hK hW (k := 0) rfl (by decide) rfl) rfl rfl hl.1 rfl (lv_room (Nat.le_of_ble_eq_true rfl)) dX11_readAct_143 ⟨Nat.le_of_ble_eq_true rfl, Nat.le_of_ble_eq_true rfl⟩) hW (fun H locs hW => ?_)
        refine lv_if_eq (tgt := 153) hx hb dX11_readAct_146 (by decide) (fun c1 => ?_) (fun c1 => ?_)
        · have hr := br_p c1 hr
          refine lv_iconst (v := (0 : Int32)) hx hb dX11_readAct_153 (by decide) ?_
          obtain ⟨e1, e2⟩ := Prod.mk.inj (Option.some.inj hr)
          rw [← e1, ← e2]
          exact xzret hx hb hr0 hlocks hW adR_rf (by decide) dX11_readAct_154
        · have hr := br_n c1 hr
          refine lv_iconst (v := (1 : Int32)) hx hb dX11_readAct_149 (by decide) ?_
          refine lv_goto (tgt := 154) hx hb dX11_readAct_150 (by decide) ?_
          obtain ⟨e1, e2⟩ := Prod.mk.inj (Option.some.inj hr)
          rw [← e1, ← e2]
          exact xzret hx hb hr0 hlocks hW adR_rf (by decide) dX11_readAct_154
    clear hr3
    refine lv_icmp_ne (tgt := 130) hx hb dX11_readAct_53 (by decide) (fun c1 => ?_) (fun c1 => ?_)
    · have hr := br_n c1 hr
      refine lv_iconst (v := (1 : Int32)) hx hb dX11_readAct_130 (by decide) ?_
      refine lv_goto (tgt := 135) hx hb dX11_readAct_131 (by decide) ?_
      obtain ⟨e1, e2⟩ := Prod.mk.inj (Option.some.inj hr)
      subst e1
      subst e2
      exact hj135_5 _ _ _ hW (lv_sub hl [0] rfl)
    · have hr := br_p c1 hr
      refine lv_aload_n hx hb dX11_readAct_56 rfl (lv_at hl 0 rfl) ?_
      refine lv_iconst (v := (0 : Int32)) hx hb dX11_readAct_57 (by decide) ?_
      refine lv_iconst (v := (0 : Int32)) hx hb dX11_readAct_58 (by decide) ?_
      refine lv_iconst (v := (3 : Int32)) hx hb dX11_readAct_59 (by decide) ?_
      obtain ⟨r_7, M_6, hc60, hr⟩ := ob2_e hr
      refine xk_i (va_runV (As := [.int (0 : Int32), .int (0 : Int32), .int (3 : Int32)]) (rest := []) ⟨hx, hb, hml, hown, hts⟩ (c_X11_readNumber l D cA ad M_3 (0 : Int32) (0 : Int32) (3 : Int32) hc60) (cwV 3 hts gX11_readAct_X11_readNumber rfl rfl rfl (by decide +kernel) ⟨Nat.le_of_ble_eq_true rfl, Nat.le_of_ble_eq_true rfl⟩) (xpreV hK hW (k := 0) rfl (by decide) rfl) rfl rfl hl.1 rfl (lv_room (Nat.le_of_ble_eq_true rfl)) dX11_readAct_60 ⟨Nat.le_of_ble_eq_true rfl, Nat.le_of_ble_eq_true rfl⟩) hW (fun H locs hW => ?_)
      refine lv_if_eq (tgt := 134) hx hb dX11_readAct_63 (by decide) (fun c1 => ?_) (fun c1 => ?_)
      · have hr := br_p c1 hr
        refine lv_iconst (v := (0 : Int32)) hx hb dX11_readAct_134 (by decide) ?_
        obtain ⟨e1, e2⟩ := Prod.mk.inj (Option.some.inj hr)
        subst e1
        subst e2
        exact hj135_5 _ _ _ hW (lv_sub hl [0] rfl)
      · have hr := br_n c1 hr
        refine lv_aload_n hx hb dX11_readAct_66 rfl (lv_at hl 0 rfl) ?_
        refine lv_bipush (v := (102 : Int32)) hx hb dX11_readAct_67 (by decide) ?_
        obtain ⟨r_9, M_8, hc69, hr⟩ := ob2_e hr
        refine xk_i (va_runV (As := [.int (102 : Int32)]) (rest := []) ⟨hx, hb, hml, hown, hts⟩ (c_X11_passes l D cA ad M_6 (102 : Int32) hc69) (cwV 1 hts gX11_readAct_X11_passes rfl rfl rfl (by decide +kernel) ⟨Nat.le_of_ble_eq_true rfl, Nat.le_of_ble_eq_true rfl⟩) (xpreV hK hW (k := 0) rfl (by decide) rfl) rfl rfl hl.1 rfl (lv_room (Nat.le_of_ble_eq_true rfl)) dX11_readAct_69 ⟨Nat.le_of_ble_eq_true rfl, Nat.le_of_ble_eq_true rfl⟩) hW (fun H locs hW => ?_)
        refine lv_if_eq (tgt := 134) hx hb dX11_readAct_72 (by decide) (fun c1 => ?_) (fun c1 => ?_)
        · have hr := br_p c1 hr
          refine lv_iconst (v := (0 : Int32)) hx hb dX11_readAct_134 (by decide) ?_
          obtain ⟨e1, e2⟩ := Prod.mk.inj (Option.some.inj hr)
          subst e1
          subst e2
          exact hj135_5 _ _ _ hW (lv_sub hl [0] rfl)
        · have hr := br_n c1 hr
          refine lv_aload_n hx hb dX11_readAct_75 rfl (lv_at hl 0 rfl) ?_
          refine lv_iconst (v := (1 : Int32)) hx hb dX11_readAct_76 (by decide) ?_
          refine lv_sipush (v := (1000 : Int32)) hx hb dX11_readAct_77 (by decide) ?_
          refine lv_ldc (v := (9999999 : Int32)) hx hb hown (hts _ (wm 3 rfl)) dX11_readAct_80 ?_
          obtain ⟨r_11, M_10, hc82, hr⟩ := ob2_e hr
          refine xk_i (va_runV (As := [.int (1 : Int32), .int (1000 : Int32), .int (9999999 : Int32)]) (rest := []) ⟨hx, hb, hml, hown, hts⟩ (c_X11_readNumber l D cA ad M_8 (1 : Int32) (1000 : Int32) (9999999 : Int32) hc82) (cwV 3 hts gX11_readAct_X11_readNumber rfl rfl rfl (by decide +kernel) ⟨Nat.le_of_ble_eq_true rfl, Nat.le_of_ble_eq_true rfl⟩) (xpreV hK hW (k := 0) rfl (by decide) rfl) rfl rfl hl.1 rfl (lv_room (Nat.le_of_ble_eq_true rfl)) dX11_readAct_82 ⟨Nat.le_of_ble_eq_true rfl, Nat.le_of_ble_eq_true rfl⟩) hW (fun H locs hW => ?_)
          refine lv_if_eq (tgt := 134) hx hb dX11_readAct_85 (by decide) (fun c1 => ?_) (fun c1 => ?_)
          · have hr := br_p c1 hr
            refine lv_iconst (v := (0 : Int32)) hx hb dX11_readAct_134 (by decide) ?_
            obtain ⟨e1, e2⟩ := Prod.mk.inj (Option.some.inj hr)
            subst e1
            subst e2
            exact hj135_5 _ _ _ hW (lv_sub hl [0] rfl)
          · have hr := br_n c1 hr
            refine lv_aload_n hx hb dX11_readAct_88 rfl (lv_at hl 0 rfl) ?_
            refine lv_bipush (v := (98 : Int32)) hx hb dX11_readAct_89 (by decide) ?_
            obtain ⟨r_13, M_12, hc91, hr⟩ := ob2_e hr
            refine xk_i (va_runV (As := [.int (98 : Int32)]) (rest := []) ⟨hx, hb, hml, hown, hts⟩ (c_X11_passes l D cA ad M_10 (98 : Int32) hc91) (cwV 1 hts gX11_readAct_X11_passes rfl rfl rfl (by decide +kernel) ⟨Nat.le_of_ble_eq_true rfl, Nat.le_of_ble_eq_true rfl⟩) (xpreV hK hW (k := 0) rfl (by decide) rfl) rfl rfl hl.1 rfl (lv_room (Nat.le_of_ble_eq_true rfl)) dX11_readAct_91 ⟨Nat.le_of_ble_eq_true rfl, Nat.le_of_ble_eq_true rfl⟩) hW (fun H locs hW => ?_)
            refine lv_if_eq (tgt := 134) hx hb dX11_readAct_94 (by decide) (fun c1 => ?_) (fun c1 => ?_)
            · have hr := br_p c1 hr
              refine lv_iconst (v := (0 : Int32)) hx hb dX11_readAct_134 (by decide) ?_
              obtain ⟨e1, e2⟩ := Prod.mk.inj (Option.some.inj hr)
              subst e1
              subst e2
              exact hj135_5 _ _ _ hW (lv_sub hl [0] rfl)
            · have hr := br_n c1 hr
              refine lv_aload_n hx hb dX11_readAct_97 rfl (lv_at hl 0 rfl) ?_
              refine lv_iconst (v := (2 : Int32)) hx hb dX11_readAct_98 (by decide) ?_
              refine lv_sipush (v := (1000 : Int32)) hx hb dX11_readAct_99 (by decide) ?_
              refine lv_ldc (v := (9999999 : Int32)) hx hb hown (hts _ (wm 3 rfl)) dX11_readAct_102 ?_
              obtain ⟨r_15, M_14, hc104, hr⟩ := ob2_e hr
              refine xk_i (va_runV (As := [.int (2 : Int32), .int (1000 : Int32), .int (9999999 : Int32)]) (rest := []) ⟨hx, hb, hml, hown, hts⟩ (c_X11_readNumber l D cA ad M_12 (2 : Int32) (1000 : Int32) (9999999 : Int32) hc104) (cwV 3 hts gX11_readAct_X11_readNumber rfl rfl rfl (by decide +kernel) ⟨Nat.le_of_ble_eq_true rfl, Nat.le_of_ble_eq_true rfl⟩) (xpreV hK hW (k := 0) rfl (by decide) rfl) rfl rfl hl.1 rfl (lv_room (Nat.le_of_ble_eq_true rfl)) dX11_readAct_104 ⟨Nat.le_of_ble_eq_true rfl, Nat.le_of_ble_eq_true rfl⟩) hW (fun H locs hW => ?_)
              refine lv_if_eq (tgt := 134) hx hb dX11_readAct_107 (by decide) (fun c1 => ?_) (fun c1 => ?_)
              · have hr := br_p c1 hr
                refine lv_iconst (v := (0 : Int32)) hx hb dX11_readAct_134 (by decide) ?_
                obtain ⟨e1, e2⟩ := Prod.mk.inj (Option.some.inj hr)
                subst e1
                subst e2
                exact hj135_5 _ _ _ hW (lv_sub hl [0] rfl)
              · have hr := br_n c1 hr
                refine lv_aload_n hx hb dX11_readAct_110 rfl (lv_at hl 0 rfl) ?_
                refine lv_bipush (v := (113 : Int32)) hx hb dX11_readAct_111 (by decide) ?_
                obtain ⟨r_17, M_16, hc113, hr⟩ := ob2_e hr
                refine xk_i (va_runV (As := [.int (113 : Int32)]) (rest := []) ⟨hx, hb, hml, hown, hts⟩ (c_X11_passes l D cA ad M_14 (113 : Int32) hc113) (cwV 1 hts gX11_readAct_X11_passes rfl rfl rfl (by decide +kernel) ⟨Nat.le_of_ble_eq_true rfl, Nat.le_of_ble_eq_true rfl⟩) (xpreV hK hW (k := 0) rfl (by decide) rfl) rfl rfl hl.1 rfl (lv_room (Nat.le_of_ble_eq_true rfl)) dX11_readAct_113 ⟨Nat.le_of_ble_eq_true rfl, Nat.le_of_ble_eq_true rfl⟩) hW (fun H locs hW => ?_)
                refine lv_if_eq (tgt := 134) hx hb dX11_readAct_116 (by decide) (fun c1 => ?_) (fun c1 => ?_)
                · have hr := br_p c1 hr
                  refine lv_iconst (v := (0 : Int32)) hx hb dX11_readAct_134 (by decide) ?_
                  obtain ⟨e1, e2⟩ := Prod.mk.inj (Option.some.inj hr)
                  subst e1
                  subst e2
                  exact hj135_5 _ _ _ hW (lv_sub hl [0] rfl)
                · have hr := br_n c1 hr
                  refine lv_aload_n hx hb dX11_readAct_119 rfl (lv_at hl 0 rfl) ?_
                  refine lv_iconst (v := (3 : Int32)) hx hb dX11_readAct_120 (by decide) ?_
                  refine lv_iconst (v := (0 : Int32)) hx hb dX11_readAct_121 (by decide) ?_
                  refine lv_bipush (v := (100 : Int32)) hx hb dX11_readAct_122 (by decide) ?_
                  obtain ⟨r_19, M_18, hc124, hr⟩ := ob2_e hr
                  refine xk_i (va_runV (As := [.int (3 : Int32), .int (0 : Int32), .int (100 : Int32)]) (rest := []) ⟨hx, hb, hml, hown, hts⟩ (c_X11_readNumber l D cA ad M_16 (3 : Int32) (0 : Int32) (100 : Int32) hc124) (cwV 3 hts gX11_readAct_X11_readNumber rfl rfl rfl (by decide +kernel) ⟨Nat.le_of_ble_eq_true rfl, Nat.le_of_ble_eq_true rfl⟩) (xpreV hK hW (k := 0) rfl (by decide) rfl) rfl rfl hl.1 rfl (lv_room (Nat.le_of_ble_eq_true rfl)) dX11_readAct_124 ⟨Nat.le_of_ble_eq_true rfl, Nat.le_of_ble_eq_true rfl⟩) hW (fun H locs hW => ?_)
                  refine lv_if_eq (tgt := 134) hx hb dX11_readAct_127 (by decide) (fun c1 => ?_) (fun c1 => ?_)
                  · have hr := br_p c1 hr
                    refine lv_iconst (v := (0 : Int32)) hx hb dX11_readAct_134 (by decide) ?_
                    obtain ⟨e1, e2⟩ := Prod.mk.inj (Option.some.inj hr)
                    subst e1
                    subst e2
                    exact hj135_5 _ _ _ hW (lv_sub hl [0] rfl)
                  · have hr := br_n c1 hr
                    refine lv_iconst (v := (1 : Int32)) hx hb dX11_readAct_130 (by decide) ?_
                    refine lv_goto (tgt := 135) hx hb dX11_readAct_131 (by decide) ?_
                    obtain ⟨e1, e2⟩ := Prod.mk.inj (Option.some.inj hr)
                    subst e1
                    subst e2
                    exact hj135_5 _ _ _ hW (lv_sub hl [0] rfl)
  · have hr := br_n c1 hr
    refine lv_aload_n hx hb dX11_readAct_17 rfl (lv_at hl 0 rfl) ?_
    refine g11_22 hx hb hts hi11 hown hK hW (k := 0) rfl (hts _ (wm 1 rfl)) dX11_readAct_18 ?_
    refine lv_bipush (v := (99 : Int32)) hx hb dX11_readAct_21 (by decide) ?_
    refine lv_icmp_eq (tgt := 37) hx hb dX11_readAct_23 (by decide) (fun c1 => ?_) (fun c1 => ?_)
    · have hr := br_p c1 hr
      refine lv_aload_n hx hb dX11_readAct_37 rfl (lv_at hl 0 rfl) ?_
      refine lv_dup hx hb dX11_readAct_38 rfl ?_
      refine g11_21 hx hb hts hi11 hown hK hW (k := 0) rfl (hts _ (wm 2 rfl)) dX11_readAct_39 ?_
      refine lv_iconst (v := (1 : Int32)) hx hb dX11_readAct_42 (by decide) ?_
      refine lv_iadd hx hb dX11_readAct_43 ?_
      obtain ⟨M_22, eM_22, hr⟩ := lt1_e hr
      refine p11_21 hx hb hts hi11 hown hK hW (k := 0) rfl (hts _ (wm 2 rfl)) dX11_readAct_44 (fun H locs hW => ?_)
      rw [← eM_22] at hW
      refine lv_aload_n hx hb dX11_readAct_47 rfl (lv_at hl 0 rfl) ?_
      refine g11_22 hx hb hts hi11 hown hK hW (k := 0) rfl (hts _ (wm 1 rfl)) dX11_readAct_48 ?_
      refine lv_bipush (v := (115 : Int32)) hx hb dX11_readAct_51 (by decide) ?_
      obtain ⟨y_23, M_24, hr, hr3⟩ := ob2_e hr
      have hj135_24 : ∀ (H : Heap) (locs : List Loc) (ls : Array Slot), Xw D false cA ad M_24 (AX false ad) s.heap H locs → lv_has ls 2 [(0, .ref (ad 0))] → W p l e (headSpec wsX11_readAct { frames := 2, cells := 0, slots := 0, locals := 47 }).room s m args below meth c H locs 0 0 (MQ below (QiX false D false cA ad r M') args s 0 0 (AX false ad)) (F0 m 135 ls [.int y_23]) := by
        intro H locs ls hW hl
        have hr := hr3
        refine lv_istore_n (lv' := [(1, .int y_23), (0, .ref (ad 0))]) hx hb dX11_readAct_135 rfl hl (by decide) rfl (fun ls hl => ?_)
        refine lv_iload_n hx hb dX11_readAct_136 rfl (lv_at hl 0 rfl) ?_
        refine lv_if_eq (tgt := 153) hx hb dX11_readAct_137 (by decide) (fun c1 => ?_) (fun c1 => ?_)
        · have hr := br_p c1 hr
          refine lv_iconst (v := (0 : Int32)) hx hb dX11_readAct_153 (by decide) ?_
          obtain ⟨e1, e2⟩ := Prod.mk.inj (Option.some.inj hr)
          rw [← e1, ← e2]
          exact xzret hx hb hr0 hlocks hW adR_rf (by decide) dX11_readAct_154
        · have hr := br_n c1 hr
          refine lv_aload_n hx hb dX11_readAct_140 rfl (lv_at hl 1 rfl) ?_
          refine lv_bipush (v := (59 : Int32)) hx hb dX11_readAct_141 (by decide) ?_
          obtain ⟨r_40, M_39, hc143, hr⟩ := ob2_e hr
          refine xk_i (va_runV (As := [.int (59 : Int32)]) (rest := []) ⟨hx, hb, hml, hown, hts⟩ (c_X11_passes l D cA ad M_24 (59 : Int32) hc143) (cwV 1 hts gX11_readAct_X11_passes rfl rfl rfl (by decide +kernel) ⟨Nat.le_of_ble_eq_true rfl, Nat.le_of_ble_eq_true rfl⟩) (xpreV hK hW (k := 0) rfl (by decide) rfl) rfl rfl hl.1 rfl (lv_room (Nat.le_of_ble_eq_true rfl)) dX11_readAct_143 ⟨Nat.le_of_ble_eq_true rfl, Nat.le_of_ble_eq_true rfl⟩) hW (fun H locs hW => ?_)
          refine lv_if_eq (tgt := 153) hx hb dX11_readAct_146 (by decide) (fun c1 => ?_) (fun c1 => ?_)
          · have hr := br_p c1 hr
            refine lv_iconst (v := (0 : Int32)) hx hb dX11_readAct_153 (by decide) ?_
            obtain ⟨e1, e2⟩ := Prod.mk.inj (Option.some.inj hr)
            rw [← e1, ← e2]
            exact xzret hx hb hr0 hlocks hW adR_rf (by decide) dX11_readAct_154
          · have hr := br_n c1 hr
            refine lv_iconst (v := (1 : Int32)) hx hb dX11_readAct_149 (by decide) ?_
            refine lv_goto (tgt := 154) hx hb dX11_readAct_150 (by decide) ?_
            obtain ⟨e1, e2⟩ := Prod.mk.inj (Option.some.inj hr)
            rw [← e1, ← e2]
            exact xzret hx hb hr0 hlocks hW adR_rf (by decide) dX11_readAct_154
      clear hr3
      refine lv_icmp_ne (tgt := 130) hx hb dX11_readAct_53 (by decide) (fun c1 => ?_) (fun c1 => ?_)
      · have hr := br_n c1 hr
        refine lv_iconst (v := (1 : Int32)) hx hb dX11_readAct_130 (by decide) ?_
        refine lv_goto (tgt := 135) hx hb dX11_readAct_131 (by decide) ?_
        obtain ⟨e1, e2⟩ := Prod.mk.inj (Option.some.inj hr)
        subst e1
        subst e2
        exact hj135_24 _ _ _ hW (lv_sub hl [0] rfl)
      · have hr := br_p c1 hr
        refine lv_aload_n hx hb dX11_readAct_56 rfl (lv_at hl 0 rfl) ?_
        refine lv_iconst (v := (0 : Int32)) hx hb dX11_readAct_57 (by decide) ?_
        refine lv_iconst (v := (0 : Int32)) hx hb dX11_readAct_58 (by decide) ?_
        refine lv_iconst (v := (3 : Int32)) hx hb dX11_readAct_59 (by decide) ?_
        obtain ⟨r_26, M_25, hc60, hr⟩ := ob2_e hr
        refine xk_i (va_runV (As := [.int (0 : Int32), .int (0 : Int32), .int (3 : Int32)]) (rest := []) ⟨hx, hb, hml, hown, hts⟩ (c_X11_readNumber l D cA ad M_22 (0 : Int32) (0 : Int32) (3 : Int32) hc60) (cwV 3 hts gX11_readAct_X11_readNumber rfl rfl rfl (by decide +kernel) ⟨Nat.le_of_ble_eq_true rfl, Nat.le_of_ble_eq_true rfl⟩) (xpreV hK hW (k := 0) rfl (by decide) rfl) rfl rfl hl.1 rfl (lv_room (Nat.le_of_ble_eq_true rfl)) dX11_readAct_60 ⟨Nat.le_of_ble_eq_true rfl, Nat.le_of_ble_eq_true rfl⟩) hW (fun H locs hW => ?_)
        refine lv_if_eq (tgt := 134) hx hb dX11_readAct_63 (by decide) (fun c1 => ?_) (fun c1 => ?_)
        · have hr := br_p c1 hr
          refine lv_iconst (v := (0 : Int32)) hx hb dX11_readAct_134 (by decide) ?_
          obtain ⟨e1, e2⟩ := Prod.mk.inj (Option.some.inj hr)
          subst e1
          subst e2
          exact hj135_24 _ _ _ hW (lv_sub hl [0] rfl)
        · have hr := br_n c1 hr
          refine lv_aload_n hx hb dX11_readAct_66 rfl (lv_at hl 0 rfl) ?_
          refine lv_bipush (v := (102 : Int32)) hx hb dX11_readAct_67 (by decide) ?_
          obtain ⟨r_28, M_27, hc69, hr⟩ := ob2_e hr
          refine xk_i (va_runV (As := [.int (102 : Int32)]) (rest := []) ⟨hx, hb, hml, hown, hts⟩ (c_X11_passes l D cA ad M_25 (102 : Int32) hc69) (cwV 1 hts gX11_readAct_X11_passes rfl rfl rfl (by decide +kernel) ⟨Nat.le_of_ble_eq_true rfl, Nat.le_of_ble_eq_true rfl⟩) (xpreV hK hW (k := 0) rfl (by decide) rfl) rfl rfl hl.1 rfl (lv_room (Nat.le_of_ble_eq_true rfl)) dX11_readAct_69 ⟨Nat.le_of_ble_eq_true rfl, Nat.le_of_ble_eq_true rfl⟩) hW (fun H locs hW => ?_)
          refine lv_if_eq (tgt := 134) hx hb dX11_readAct_72 (by decide) (fun c1 => ?_) (fun c1 => ?_)
          · have hr := br_p c1 hr
            refine lv_iconst (v := (0 : Int32)) hx hb dX11_readAct_134 (by decide) ?_
            obtain ⟨e1, e2⟩ := Prod.mk.inj (Option.some.inj hr)
            subst e1
            subst e2
            exact hj135_24 _ _ _ hW (lv_sub hl [0] rfl)
          · have hr := br_n c1 hr
            refine lv_aload_n hx hb dX11_readAct_75 rfl (lv_at hl 0 rfl) ?_
            refine lv_iconst (v := (1 : Int32)) hx hb dX11_readAct_76 (by decide) ?_
            refine lv_sipush (v := (1000 : Int32)) hx hb dX11_readAct_77 (by decide) ?_
            refine lv_ldc (v := (9999999 : Int32)) hx hb hown (hts _ (wm 3 rfl)) dX11_readAct_80 ?_
            obtain ⟨r_30, M_29, hc82, hr⟩ := ob2_e hr
            refine xk_i (va_runV (As := [.int (1 : Int32), .int (1000 : Int32), .int (9999999 : Int32)]) (rest := []) ⟨hx, hb, hml, hown, hts⟩ (c_X11_readNumber l D cA ad M_27 (1 : Int32) (1000 : Int32) (9999999 : Int32) hc82) (cwV 3 hts gX11_readAct_X11_readNumber rfl rfl rfl (by decide +kernel) ⟨Nat.le_of_ble_eq_true rfl, Nat.le_of_ble_eq_true rfl⟩) (xpreV hK hW (k := 0) rfl (by decide) rfl) rfl rfl hl.1 rfl (lv_room (Nat.le_of_ble_eq_true rfl)) dX11_readAct_82 ⟨Nat.le_of_ble_eq_true rfl, Nat.le_of_ble_eq_true rfl⟩) hW (fun H locs hW => ?_)
            refine lv_if_eq (tgt := 134) hx hb dX11_readAct_85 (by decide) (fun c1 => ?_) (fun c1 => ?_)
            · have hr := br_p c1 hr
              refine lv_iconst (v := (0 : Int32)) hx hb dX11_readAct_134 (by decide) ?_
              obtain ⟨e1, e2⟩ := Prod.mk.inj (Option.some.inj hr)
              subst e1
              subst e2
              exact hj135_24 _ _ _ hW (lv_sub hl [0] rfl)
            · have hr := br_n c1 hr
              refine lv_aload_n hx hb dX11_readAct_88 rfl (lv_at hl 0 rfl) ?_
              refine lv_bipush (v := (98 : Int32)) hx hb dX11_readAct_89 (by decide) ?_
              obtain ⟨r_32, M_31, hc91, hr⟩ := ob2_e hr
              refine xk_i (va_runV (As := [.int (98 : Int32)]) (rest := []) ⟨hx, hb, hml, hown, hts⟩ (c_X11_passes l D cA ad M_29 (98 : Int32) hc91) (cwV 1 hts gX11_readAct_X11_passes rfl rfl rfl (by decide +kernel) ⟨Nat.le_of_ble_eq_true rfl, Nat.le_of_ble_eq_true rfl⟩) (xpreV hK hW (k := 0) rfl (by decide) rfl) rfl rfl hl.1 rfl (lv_room (Nat.le_of_ble_eq_true rfl)) dX11_readAct_91 ⟨Nat.le_of_ble_eq_true rfl, Nat.le_of_ble_eq_true rfl⟩) hW (fun H locs hW => ?_)
              refine lv_if_eq (tgt := 134) hx hb dX11_readAct_94 (by decide) (fun c1 => ?_) (fun c1 => ?_)
              · have hr := br_p c1 hr
                refine lv_iconst (v := (0 : Int32)) hx hb dX11_readAct_134 (by decide) ?_
                obtain ⟨e1, e2⟩ := Prod.mk.inj (Option.some.inj hr)
                subst e1
                subst e2
                exact hj135_24 _ _ _ hW (lv_sub hl [0] rfl)
              · have hr := br_n c1 hr
                refine lv_aload_n hx hb dX11_readAct_97 rfl (lv_at hl 0 rfl) ?_
                refine lv_iconst (v := (2 : Int32)) hx hb dX11_readAct_98 (by decide) ?_
                refine lv_sipush (v := (1000 : Int32)) hx hb dX11_readAct_99 (by decide) ?_
                refine lv_ldc (v := (9999999 : Int32)) hx hb hown (hts _ (wm 3 rfl)) dX11_readAct_102 ?_
                obtain ⟨r_34, M_33, hc104, hr⟩ := ob2_e hr
                refine xk_i (va_runV (As := [.int (2 : Int32), .int (1000 : Int32), .int (9999999 : Int32)]) (rest := []) ⟨hx, hb, hml, hown, hts⟩ (c_X11_readNumber l D cA ad M_31 (2 : Int32) (1000 : Int32) (9999999 : Int32) hc104) (cwV 3 hts gX11_readAct_X11_readNumber rfl rfl rfl (by decide +kernel) ⟨Nat.le_of_ble_eq_true rfl, Nat.le_of_ble_eq_true rfl⟩) (xpreV hK hW (k := 0) rfl (by decide) rfl) rfl rfl hl.1 rfl (lv_room (Nat.le_of_ble_eq_true rfl)) dX11_readAct_104 ⟨Nat.le_of_ble_eq_true rfl, Nat.le_of_ble_eq_true rfl⟩) hW (fun H locs hW => ?_)
                refine lv_if_eq (tgt := 134) hx hb dX11_readAct_107 (by decide) (fun c1 => ?_) (fun c1 => ?_)
                · have hr := br_p c1 hr
                  refine lv_iconst (v := (0 : Int32)) hx hb dX11_readAct_134 (by decide) ?_
                  obtain ⟨e1, e2⟩ := Prod.mk.inj (Option.some.inj hr)
                  subst e1
                  subst e2
                  exact hj135_24 _ _ _ hW (lv_sub hl [0] rfl)
                · have hr := br_n c1 hr
                  refine lv_aload_n hx hb dX11_readAct_110 rfl (lv_at hl 0 rfl) ?_
                  refine lv_bipush (v := (113 : Int32)) hx hb dX11_readAct_111 (by decide) ?_
                  obtain ⟨r_36, M_35, hc113, hr⟩ := ob2_e hr
                  refine xk_i (va_runV (As := [.int (113 : Int32)]) (rest := []) ⟨hx, hb, hml, hown, hts⟩ (c_X11_passes l D cA ad M_33 (113 : Int32) hc113) (cwV 1 hts gX11_readAct_X11_passes rfl rfl rfl (by decide +kernel) ⟨Nat.le_of_ble_eq_true rfl, Nat.le_of_ble_eq_true rfl⟩) (xpreV hK hW (k := 0) rfl (by decide) rfl) rfl rfl hl.1 rfl (lv_room (Nat.le_of_ble_eq_true rfl)) dX11_readAct_113 ⟨Nat.le_of_ble_eq_true rfl, Nat.le_of_ble_eq_true rfl⟩) hW (fun H locs hW => ?_)
                  refine lv_if_eq (tgt := 134) hx hb dX11_readAct_116 (by decide) (fun c1 => ?_) (fun c1 => ?_)
                  · have hr := br_p c1 hr
                    refine lv_iconst (v := (0 : Int32)) hx hb dX11_readAct_134 (by decide) ?_
                    obtain ⟨e1, e2⟩ := Prod.mk.inj (Option.some.inj hr)
                    subst e1
                    subst e2
                    exact hj135_24 _ _ _ hW (lv_sub hl [0] rfl)
                  · have hr := br_n c1 hr
                    refine lv_aload_n hx hb dX11_readAct_119 rfl (lv_at hl 0 rfl) ?_
                    refine lv_iconst (v := (3 : Int32)) hx hb dX11_readAct_120 (by decide) ?_
                    refine lv_iconst (v := (0 : Int32)) hx hb dX11_readAct_121 (by decide) ?_
                    refine lv_bipush (v := (100 : Int32)) hx hb dX11_readAct_122 (by decide) ?_
                    obtain ⟨r_38, M_37, hc124, hr⟩ := ob2_e hr
                    refine xk_i (va_runV (As := [.int (3 : Int32), .int (0 : Int32), .int (100 : Int32)]) (rest := []) ⟨hx, hb, hml, hown, hts⟩ (c_X11_readNumber l D cA ad M_35 (3 : Int32) (0 : Int32) (100 : Int32) hc124) (cwV 3 hts gX11_readAct_X11_readNumber rfl rfl rfl (by decide +kernel) ⟨Nat.le_of_ble_eq_true rfl, Nat.le_of_ble_eq_true rfl⟩) (xpreV hK hW (k := 0) rfl (by decide) rfl) rfl rfl hl.1 rfl (lv_room (Nat.le_of_ble_eq_true rfl)) dX11_readAct_124 ⟨Nat.le_of_ble_eq_true rfl, Nat.le_of_ble_eq_true rfl⟩) hW (fun H locs hW => ?_)
                    refine lv_if_eq (tgt := 134) hx hb dX11_readAct_127 (by decide) (fun c1 => ?_) (fun c1 => ?_)
                    · have hr := br_p c1 hr
                      refine lv_iconst (v := (0 : Int32)) hx hb dX11_readAct_134 (by decide) ?_
                      obtain ⟨e1, e2⟩ := Prod.mk.inj (Option.some.inj hr)
                      subst e1
                      subst e2
                      exact hj135_24 _ _ _ hW (lv_sub hl [0] rfl)
                    · have hr := br_n c1 hr
                      refine lv_iconst (v := (1 : Int32)) hx hb dX11_readAct_130 (by decide) ?_
                      refine lv_goto (tgt := 135) hx hb dX11_readAct_131 (by decide) ?_
                      obtain ⟨e1, e2⟩ := Prod.mk.inj (Option.some.inj hr)
                      subst e1
                      subst e2
                      exact hj135_24 _ _ _ hW (lv_sub hl [0] rfl)
    · have hr := br_n c1 hr
      refine lv_aload_n hx hb dX11_readAct_26 rfl (lv_at hl 0 rfl) ?_
      refine g11_22 hx hb hts hi11 hown hK hW (k := 0) rfl (hts _ (wm 1 rfl)) dX11_readAct_27 ?_
      refine lv_bipush (v := (119 : Int32)) hx hb dX11_readAct_30 (by decide) ?_
      refine lv_icmp_eq (tgt := 37) hx hb dX11_readAct_32 (by decide) (fun c1 => ?_) (fun c1 => ?_)
      · have hr := br_p c1 hr
        refine lv_aload_n hx hb dX11_readAct_37 rfl (lv_at hl 0 rfl) ?_
        refine lv_dup hx hb dX11_readAct_38 rfl ?_
        refine g11_21 hx hb hts hi11 hown hK hW (k := 0) rfl (hts _ (wm 2 rfl)) dX11_readAct_39 ?_
        refine lv_iconst (v := (1 : Int32)) hx hb dX11_readAct_42 (by decide) ?_
        refine lv_iadd hx hb dX11_readAct_43 ?_
        obtain ⟨M_41, eM_41, hr⟩ := lt1_e hr
        refine p11_21 hx hb hts hi11 hown hK hW (k := 0) rfl (hts _ (wm 2 rfl)) dX11_readAct_44 (fun H locs hW => ?_)
        rw [← eM_41] at hW
        refine lv_aload_n hx hb dX11_readAct_47 rfl (lv_at hl 0 rfl) ?_
        refine g11_22 hx hb hts hi11 hown hK hW (k := 0) rfl (hts _ (wm 1 rfl)) dX11_readAct_48 ?_
        refine lv_bipush (v := (115 : Int32)) hx hb dX11_readAct_51 (by decide) ?_
        obtain ⟨y_42, M_43, hr, hr3⟩ := ob2_e hr
        have hj135_43 : ∀ (H : Heap) (locs : List Loc) (ls : Array Slot), Xw D false cA ad M_43 (AX false ad) s.heap H locs → lv_has ls 2 [(0, .ref (ad 0))] → W p l e (headSpec wsX11_readAct { frames := 2, cells := 0, slots := 0, locals := 47 }).room s m args below meth c H locs 0 0 (MQ below (QiX false D false cA ad r M') args s 0 0 (AX false ad)) (F0 m 135 ls [.int y_42]) := by
          intro H locs ls hW hl
          have hr := hr3
          refine lv_istore_n (lv' := [(1, .int y_42), (0, .ref (ad 0))]) hx hb dX11_readAct_135 rfl hl (by decide) rfl (fun ls hl => ?_)
          refine lv_iload_n hx hb dX11_readAct_136 rfl (lv_at hl 0 rfl) ?_
          refine lv_if_eq (tgt := 153) hx hb dX11_readAct_137 (by decide) (fun c1 => ?_) (fun c1 => ?_)
          · have hr := br_p c1 hr
            refine lv_iconst (v := (0 : Int32)) hx hb dX11_readAct_153 (by decide) ?_
            obtain ⟨e1, e2⟩ := Prod.mk.inj (Option.some.inj hr)
            rw [← e1, ← e2]
            exact xzret hx hb hr0 hlocks hW adR_rf (by decide) dX11_readAct_154
          · have hr := br_n c1 hr
            refine lv_aload_n hx hb dX11_readAct_140 rfl (lv_at hl 1 rfl) ?_
            refine lv_bipush (v := (59 : Int32)) hx hb dX11_readAct_141 (by decide) ?_
            obtain ⟨r_59, M_58, hc143, hr⟩ := ob2_e hr
            refine xk_i (va_runV (As := [.int (59 : Int32)]) (rest := []) ⟨hx, hb, hml, hown, hts⟩ (c_X11_passes l D cA ad M_43 (59 : Int32) hc143) (cwV 1 hts gX11_readAct_X11_passes rfl rfl rfl (by decide +kernel) ⟨Nat.le_of_ble_eq_true rfl, Nat.le_of_ble_eq_true rfl⟩) (xpreV hK hW (k := 0) rfl (by decide) rfl) rfl rfl hl.1 rfl (lv_room (Nat.le_of_ble_eq_true rfl)) dX11_readAct_143 ⟨Nat.le_of_ble_eq_true rfl, Nat.le_of_ble_eq_true rfl⟩) hW (fun H locs hW => ?_)
            refine lv_if_eq (tgt := 153) hx hb dX11_readAct_146 (by decide) (fun c1 => ?_) (fun c1 => ?_)
            · have hr := br_p c1 hr
              refine lv_iconst (v := (0 : Int32)) hx hb dX11_readAct_153 (by decide) ?_
              obtain ⟨e1, e2⟩ := Prod.mk.inj (Option.some.inj hr)
              rw [← e1, ← e2]
              exact xzret hx hb hr0 hlocks hW adR_rf (by decide) dX11_readAct_154
            · have hr := br_n c1 hr
              refine lv_iconst (v := (1 : Int32)) hx hb dX11_readAct_149 (by decide) ?_
              refine lv_goto (tgt := 154) hx hb dX11_readAct_150 (by decide) ?_
              obtain ⟨e1, e2⟩ := Prod.mk.inj (Option.some.inj hr)
              rw [← e1, ← e2]
              exact xzret hx hb hr0 hlocks hW adR_rf (by decide) dX11_readAct_154
        clear hr3
        refine lv_icmp_ne (tgt := 130) hx hb dX11_readAct_53 (by decide) (fun c1 => ?_) (fun c1 => ?_)
        · have hr := br_n c1 hr
          refine lv_iconst (v := (1 : Int32)) hx hb dX11_readAct_130 (by decide) ?_
          refine lv_goto (tgt := 135) hx hb dX11_readAct_131 (by decide) ?_
          obtain ⟨e1, e2⟩ := Prod.mk.inj (Option.some.inj hr)
          subst e1
          subst e2
          exact hj135_43 _ _ _ hW (lv_sub hl [0] rfl)
        · have hr := br_p c1 hr
          refine lv_aload_n hx hb dX11_readAct_56 rfl (lv_at hl 0 rfl) ?_
          refine lv_iconst (v := (0 : Int32)) hx hb dX11_readAct_57 (by decide) ?_
          refine lv_iconst (v := (0 : Int32)) hx hb dX11_readAct_58 (by decide) ?_
          refine lv_iconst (v := (3 : Int32)) hx hb dX11_readAct_59 (by decide) ?_
          obtain ⟨r_45, M_44, hc60, hr⟩ := ob2_e hr
          refine xk_i (va_runV (As := [.int (0 : Int32), .int (0 : Int32), .int (3 : Int32)]) (rest := []) ⟨hx, hb, hml, hown, hts⟩ (c_X11_readNumber l D cA ad M_41 (0 : Int32) (0 : Int32) (3 : Int32) hc60) (cwV 3 hts gX11_readAct_X11_readNumber rfl rfl rfl (by decide +kernel) ⟨Nat.le_of_ble_eq_true rfl, Nat.le_of_ble_eq_true rfl⟩) (xpreV hK hW (k := 0) rfl (by decide) rfl) rfl rfl hl.1 rfl (lv_room (Nat.le_of_ble_eq_true rfl)) dX11_readAct_60 ⟨Nat.le_of_ble_eq_true rfl, Nat.le_of_ble_eq_true rfl⟩) hW (fun H locs hW => ?_)
          refine lv_if_eq (tgt := 134) hx hb dX11_readAct_63 (by decide) (fun c1 => ?_) (fun c1 => ?_)
          · have hr := br_p c1 hr
            refine lv_iconst (v := (0 : Int32)) hx hb dX11_readAct_134 (by decide) ?_
            obtain ⟨e1, e2⟩ := Prod.mk.inj (Option.some.inj hr)
            subst e1
            subst e2
            exact hj135_43 _ _ _ hW (lv_sub hl [0] rfl)
          · have hr := br_n c1 hr
            refine lv_aload_n hx hb dX11_readAct_66 rfl (lv_at hl 0 rfl) ?_
            refine lv_bipush (v := (102 : Int32)) hx hb dX11_readAct_67 (by decide) ?_
            obtain ⟨r_47, M_46, hc69, hr⟩ := ob2_e hr
            refine xk_i (va_runV (As := [.int (102 : Int32)]) (rest := []) ⟨hx, hb, hml, hown, hts⟩ (c_X11_passes l D cA ad M_44 (102 : Int32) hc69) (cwV 1 hts gX11_readAct_X11_passes rfl rfl rfl (by decide +kernel) ⟨Nat.le_of_ble_eq_true rfl, Nat.le_of_ble_eq_true rfl⟩) (xpreV hK hW (k := 0) rfl (by decide) rfl) rfl rfl hl.1 rfl (lv_room (Nat.le_of_ble_eq_true rfl)) dX11_readAct_69 ⟨Nat.le_of_ble_eq_true rfl, Nat.le_of_ble_eq_true rfl⟩) hW (fun H locs hW => ?_)
            refine lv_if_eq (tgt := 134) hx hb dX11_readAct_72 (by decide) (fun c1 => ?_) (fun c1 => ?_)
            · have hr := br_p c1 hr
              refine lv_iconst (v := (0 : Int32)) hx hb dX11_readAct_134 (by decide) ?_
              obtain ⟨e1, e2⟩ := Prod.mk.inj (Option.some.inj hr)
              subst e1
              subst e2
              exact hj135_43 _ _ _ hW (lv_sub hl [0] rfl)
            · have hr := br_n c1 hr
              refine lv_aload_n hx hb dX11_readAct_75 rfl (lv_at hl 0 rfl) ?_
              refine lv_iconst (v := (1 : Int32)) hx hb dX11_readAct_76 (by decide) ?_
              refine lv_sipush (v := (1000 : Int32)) hx hb dX11_readAct_77 (by decide) ?_
              refine lv_ldc (v := (9999999 : Int32)) hx hb hown (hts _ (wm 3 rfl)) dX11_readAct_80 ?_
              obtain ⟨r_49, M_48, hc82, hr⟩ := ob2_e hr
              refine xk_i (va_runV (As := [.int (1 : Int32), .int (1000 : Int32), .int (9999999 : Int32)]) (rest := []) ⟨hx, hb, hml, hown, hts⟩ (c_X11_readNumber l D cA ad M_46 (1 : Int32) (1000 : Int32) (9999999 : Int32) hc82) (cwV 3 hts gX11_readAct_X11_readNumber rfl rfl rfl (by decide +kernel) ⟨Nat.le_of_ble_eq_true rfl, Nat.le_of_ble_eq_true rfl⟩) (xpreV hK hW (k := 0) rfl (by decide) rfl) rfl rfl hl.1 rfl (lv_room (Nat.le_of_ble_eq_true rfl)) dX11_readAct_82 ⟨Nat.le_of_ble_eq_true rfl, Nat.le_of_ble_eq_true rfl⟩) hW (fun H locs hW => ?_)
              refine lv_if_eq (tgt := 134) hx hb dX11_readAct_85 (by decide) (fun c1 => ?_) (fun c1 => ?_)
              · have hr := br_p c1 hr
                refine lv_iconst (v := (0 : Int32)) hx hb dX11_readAct_134 (by decide) ?_
                obtain ⟨e1, e2⟩ := Prod.mk.inj (Option.some.inj hr)
                subst e1
                subst e2
                exact hj135_43 _ _ _ hW (lv_sub hl [0] rfl)
              · have hr := br_n c1 hr
                refine lv_aload_n hx hb dX11_readAct_88 rfl (lv_at hl 0 rfl) ?_
                refine lv_bipush (v := (98 : Int32)) hx hb dX11_readAct_89 (by decide) ?_
                obtain ⟨r_51, M_50, hc91, hr⟩ := ob2_e hr
                refine xk_i (va_runV (As := [.int (98 : Int32)]) (rest := []) ⟨hx, hb, hml, hown, hts⟩ (c_X11_passes l D cA ad M_48 (98 : Int32) hc91) (cwV 1 hts gX11_readAct_X11_passes rfl rfl rfl (by decide +kernel) ⟨Nat.le_of_ble_eq_true rfl, Nat.le_of_ble_eq_true rfl⟩) (xpreV hK hW (k := 0) rfl (by decide) rfl) rfl rfl hl.1 rfl (lv_room (Nat.le_of_ble_eq_true rfl)) dX11_readAct_91 ⟨Nat.le_of_ble_eq_true rfl, Nat.le_of_ble_eq_true rfl⟩) hW (fun H locs hW => ?_)
                refine lv_if_eq (tgt := 134) hx hb dX11_readAct_94 (by decide) (fun c1 => ?_) (fun c1 => ?_)
                · have hr := br_p c1 hr
                  refine lv_iconst (v := (0 : Int32)) hx hb dX11_readAct_134 (by decide) ?_
                  obtain ⟨e1, e2⟩ := Prod.mk.inj (Option.some.inj hr)
                  subst e1
                  subst e2
                  exact hj135_43 _ _ _ hW (lv_sub hl [0] rfl)
                · have hr := br_n c1 hr
                  refine lv_aload_n hx hb dX11_readAct_97 rfl (lv_at hl 0 rfl) ?_
                  refine lv_iconst (v := (2 : Int32)) hx hb dX11_readAct_98 (by decide) ?_
                  refine lv_sipush (v := (1000 : Int32)) hx hb dX11_readAct_99 (by decide) ?_
                  refine lv_ldc (v := (9999999 : Int32)) hx hb hown (hts _ (wm 3 rfl)) dX11_readAct_102 ?_
                  obtain ⟨r_53, M_52, hc104, hr⟩ := ob2_e hr
                  refine xk_i (va_runV (As := [.int (2 : Int32), .int (1000 : Int32), .int (9999999 : Int32)]) (rest := []) ⟨hx, hb, hml, hown, hts⟩ (c_X11_readNumber l D cA ad M_50 (2 : Int32) (1000 : Int32) (9999999 : Int32) hc104) (cwV 3 hts gX11_readAct_X11_readNumber rfl rfl rfl (by decide +kernel) ⟨Nat.le_of_ble_eq_true rfl, Nat.le_of_ble_eq_true rfl⟩) (xpreV hK hW (k := 0) rfl (by decide) rfl) rfl rfl hl.1 rfl (lv_room (Nat.le_of_ble_eq_true rfl)) dX11_readAct_104 ⟨Nat.le_of_ble_eq_true rfl, Nat.le_of_ble_eq_true rfl⟩) hW (fun H locs hW => ?_)
                  refine lv_if_eq (tgt := 134) hx hb dX11_readAct_107 (by decide) (fun c1 => ?_) (fun c1 => ?_)
                  · have hr := br_p c1 hr
                    refine lv_iconst (v := (0 : Int32)) hx hb dX11_readAct_134 (by decide) ?_
                    obtain ⟨e1, e2⟩ := Prod.mk.inj (Option.some.inj hr)
                    subst e1
                    subst e2
                    exact hj135_43 _ _ _ hW (lv_sub hl [0] rfl)
                  · have hr := br_n c1 hr
                    refine lv_aload_n hx hb dX11_readAct_110 rfl (lv_at hl 0 rfl) ?_
                    refine lv_bipush (v := (113 : Int32)) hx hb dX11_readAct_111 (by decide) ?_
                    obtain ⟨r_55, M_54, hc113, hr⟩ := ob2_e hr
                    refine xk_i (va_runV (As := [.int (113 : Int32)]) (rest := []) ⟨hx, hb, hml, hown, hts⟩ (c_X11_passes l D cA ad M_52 (113 : Int32) hc113) (cwV 1 hts gX11_readAct_X11_passes rfl rfl rfl (by decide +kernel) ⟨Nat.le_of_ble_eq_true rfl, Nat.le_of_ble_eq_true rfl⟩) (xpreV hK hW (k := 0) rfl (by decide) rfl) rfl rfl hl.1 rfl (lv_room (Nat.le_of_ble_eq_true rfl)) dX11_readAct_113 ⟨Nat.le_of_ble_eq_true rfl, Nat.le_of_ble_eq_true rfl⟩) hW (fun H locs hW => ?_)
                    refine lv_if_eq (tgt := 134) hx hb dX11_readAct_116 (by decide) (fun c1 => ?_) (fun c1 => ?_)
                    · have hr := br_p c1 hr
                      refine lv_iconst (v := (0 : Int32)) hx hb dX11_readAct_134 (by decide) ?_
                      obtain ⟨e1, e2⟩ := Prod.mk.inj (Option.some.inj hr)
                      subst e1
                      subst e2
                      exact hj135_43 _ _ _ hW (lv_sub hl [0] rfl)
                    · have hr := br_n c1 hr
                      refine lv_aload_n hx hb dX11_readAct_119 rfl (lv_at hl 0 rfl) ?_
                      refine lv_iconst (v := (3 : Int32)) hx hb dX11_readAct_120 (by decide) ?_
                      refine lv_iconst (v := (0 : Int32)) hx hb dX11_readAct_121 (by decide) ?_
                      refine lv_bipush (v := (100 : Int32)) hx hb dX11_readAct_122 (by decide) ?_
                      obtain ⟨r_57, M_56, hc124, hr⟩ := ob2_e hr
                      refine xk_i (va_runV (As := [.int (3 : Int32), .int (0 : Int32), .int (100 : Int32)]) (rest := []) ⟨hx, hb, hml, hown, hts⟩ (c_X11_readNumber l D cA ad M_54 (3 : Int32) (0 : Int32) (100 : Int32) hc124) (cwV 3 hts gX11_readAct_X11_readNumber rfl rfl rfl (by decide +kernel) ⟨Nat.le_of_ble_eq_true rfl, Nat.le_of_ble_eq_true rfl⟩) (xpreV hK hW (k := 0) rfl (by decide) rfl) rfl rfl hl.1 rfl (lv_room (Nat.le_of_ble_eq_true rfl)) dX11_readAct_124 ⟨Nat.le_of_ble_eq_true rfl, Nat.le_of_ble_eq_true rfl⟩) hW (fun H locs hW => ?_)
                      refine lv_if_eq (tgt := 134) hx hb dX11_readAct_127 (by decide) (fun c1 => ?_) (fun c1 => ?_)
                      · have hr := br_p c1 hr
                        refine lv_iconst (v := (0 : Int32)) hx hb dX11_readAct_134 (by decide) ?_
                        obtain ⟨e1, e2⟩ := Prod.mk.inj (Option.some.inj hr)
                        subst e1
                        subst e2
                        exact hj135_43 _ _ _ hW (lv_sub hl [0] rfl)
                      · have hr := br_n c1 hr
                        refine lv_iconst (v := (1 : Int32)) hx hb dX11_readAct_130 (by decide) ?_
                        refine lv_goto (tgt := 135) hx hb dX11_readAct_131 (by decide) ?_
                        obtain ⟨e1, e2⟩ := Prod.mk.inj (Option.some.inj hr)
                        subst e1
                        subst e2
                        exact hj135_43 _ _ _ hW (lv_sub hl [0] rfl)
      · have hr := br_n c1 hr
        refine lv_iconst (v := (0 : Int32)) hx hb dX11_readAct_35 (by decide) ?_
        obtain ⟨e1, e2⟩ := Prod.mk.inj (Option.some.inj hr)
        rw [← e1, ← e2]
        exact xzret hx hb hr0 hlocks hW adR_rf (by decide) dX11_readAct_36

set_option maxHeartbeats 4000000 in
set_option maxRecDepth 100000 in
theorem c_X11_faultOf (l : Launch) (D : va_G) (cA : Nat → ClassId) (ad : Nat → Nat) (M : Mm) {r : Int32} {M' : Mm} (hr : f_X11_faultOf M = some (r, M')) : Met l yX11_faultOf wsX11_faultOf ({ frames := 3, cells := 0, slots := 0, locals := 68 }) (PcX D false cA ad M [.ref (ad 0)]) (QiX false D false cA ad r M') 0 0 (AX false ad) := by
  refine Met.ofW (cc := cX11_faultOf) (maxL := 1) (ret := (some .int)) (by decide) rfl ?_
  intro p e s m args below meth c s₁ B hml hv
  obtain ⟨hav, hP0, hK⟩ := hv
  have hx := B.exec
  have hb := B.bytes
  have hr0 := B.returns
  have hts := atoms_spec (ws := wsX11_faultOf) B.pre
  have hown : s.vm.findClass RX11 = some m.cls := findClass_of_methodNamed B.named
  have hlocks := B.notSynchronized
  have hW := xstart hP0
  have hi11 : ∀ w ∈ wsX110, w ∈ wsX11_faultOf := fun w h => List.mem_cons_of_mem _ (List.mem_append_right _ h)
  have hl := lv_entry ([.ref (ad 0)]) (n := 1) (Nat.le_of_ble_eq_true rfl)
  have hef := lg_entry_eq m ([.ref (ad 0)]) 1
  rw [← hav] at hef
  rw [hef]
  clear hef
  generalize (lg_sl ([.ref (ad 0)]) ++ List.replicate (1 - (lg_sl ([.ref (ad 0)])).length) Slot.unset).toArray = ls at hl ⊢
  have hl : lv_has ls 1 [(0, .ref (ad 0))] := hl
  clear hP0
  unfold f_X11_faultOf at hr
  refine lv_aload_n hx hb dX11_faultOf_0 rfl (lv_at hl 0 rfl) ?_
  refine lv_iconst (v := (0 : Int32)) hx hb dX11_faultOf_1 (by decide) ?_
  obtain ⟨M_1, eM_1, hr⟩ := lt1_e hr
  refine p11_21 hx hb hts hi11 hown hK hW (k := 0) rfl (hts _ (wm 1 rfl)) dX11_faultOf_2 (fun H locs hW => ?_)
  rw [← eM_1] at hW
  have hL5_1 : ∀ (n : Nat) (M_2 : Mm) (H : Heap) (locs : List Loc) (ls : Array Slot), Xw D false cA ad M_2 (AX false ad) s.heap H locs → lv_has ls 1 [(0, .ref (ad 0))] → f_X11_faultOf_L5 n M_2 = some (r, M') → W p l e (headSpec wsX11_faultOf { frames := 3, cells := 0, slots := 0, locals := 68 }).room s m args below meth c H locs 0 0 (MQ below (QiX false D false cA ad r M') args s 0 0 (AX false ad)) (F0 m 5 ls []) := by
    intro n
    induction n with
    | zero =>
      intro M_2 H locs ls hW hl hr
      exact absurd hr (by simp [f_X11_faultOf_L5])
    | succ n ih =>
      intro M_2 H locs ls hW hl hr
      rw [f_X11_faultOf_L5] at hr
      refine lv_aload_n hx hb dX11_faultOf_5 rfl (lv_at hl 0 rfl) ?_
      refine g11_21 hx hb hts hi11 hown hK hW (k := 0) rfl (hts _ (wm 1 rfl)) dX11_faultOf_6 ?_
      refine lv_aload_n hx hb dX11_faultOf_9 rfl (lv_at hl 0 rfl) ?_
      refine g11_9 hx hb hts hi11 hown hK hW (k := 0) rfl (hts _ (wm 2 rfl)) dX11_faultOf_10 ?_
      refine lv_icmp_ge (tgt := 28) hx hb dX11_faultOf_13 (by decide) (fun c1 => ?_) (fun c1 => ?_)
      · have hr := br_p c1 hr
        refine lv_iconst (v := (-1 : Int32)) hx hb dX11_faultOf_28 (by decide) ?_
        obtain ⟨e1, e2⟩ := Prod.mk.inj (Option.some.inj hr)
        rw [← e1, ← e2]
        exact xiret hx hb hr0 hlocks hW adR_rf dX11_faultOf_29
      · have hr := br_n c1 hr
        refine lv_aload_n hx hb dX11_faultOf_16 rfl (lv_at hl 0 rfl) ?_
        obtain ⟨r_4, M_3, hc17, hr⟩ := ob2_e hr
        refine xk_i (va_runV (As := []) (rest := []) ⟨hx, hb, hml, hown, hts⟩ (c_X11_readAct l D cA ad M_2 hc17) (cwV 0 hts gX11_faultOf_X11_readAct rfl rfl rfl (by decide +kernel) ⟨Nat.le_of_ble_eq_true rfl, Nat.le_of_ble_eq_true rfl⟩) (xpreV hK hW (k := 0) rfl (by decide) rfl) rfl rfl hl.1 rfl (lv_room (Nat.le_of_ble_eq_true rfl)) dX11_faultOf_17 ⟨Nat.le_of_ble_eq_true rfl, Nat.le_of_ble_eq_true rfl⟩) hW (fun H locs hW => ?_)
        refine lv_if_ne (tgt := 5) hx hb dX11_faultOf_20 (by decide) (fun c1 => ?_) (fun c1 => ?_)
        · have hr := br_n c1 hr
          exact ih M_3 _ _ _ hW (lv_sub hl [0] rfl) hr
        · have hr := br_p c1 hr
          refine lv_aload_n hx hb dX11_faultOf_23 rfl (lv_at hl 0 rfl) ?_
          refine g11_21 hx hb hts hi11 hown hK hW (k := 0) rfl (hts _ (wm 1 rfl)) dX11_faultOf_24 ?_
          obtain ⟨e1, e2⟩ := Prod.mk.inj (Option.some.inj hr)
          rw [← e1, ← e2]
          exact xiret hx hb hr0 hlocks hW adR_rf dX11_faultOf_27
  exact hL5_1 1000 M_1 _ _ _ hW (lv_sub hl [0] rfl) hr

set_option maxHeartbeats 4000000 in
set_option maxRecDepth 100000 in
theorem c_X11_faultPosition (l : Launch) (D : va_G) (cA : Nat → ClassId) (ad : Nat → Nat) (M : Mm) {r : Int32} {M' : Mm} (hr : f_X11_faultPosition M = some (r, M')) : Met l yX11_faultPosition wsX11_faultPosition ({ frames := 4, cells := 0, slots := 0, locals := 88 }) (PcX D false cA ad M [.ref (ad 0)]) (QiX false D false cA ad r M') 0 0 (AX false ad) := by
  refine Met.ofW (cc := cX11_faultPosition) (maxL := 2) (ret := (some .int)) (by decide) rfl ?_
  intro p e s m args below meth c s₁ B hml hv
  obtain ⟨hav, hP0, hK⟩ := hv
  have hx := B.exec
  have hb := B.bytes
  have hr0 := B.returns
  have hts := atoms_spec (ws := wsX11_faultPosition) B.pre
  have hown : s.vm.findClass RX11 = some m.cls := findClass_of_methodNamed B.named
  have hlocks := B.notSynchronized
  have hW := xstart hP0
  have hl := lv_entry ([.ref (ad 0)]) (n := 2) (Nat.le_of_ble_eq_true rfl)
  have hef := lg_entry_eq m ([.ref (ad 0)]) 2
  rw [← hav] at hef
  rw [hef]
  clear hef
  generalize (lg_sl ([.ref (ad 0)]) ++ List.replicate (2 - (lg_sl ([.ref (ad 0)])).length) Slot.unset).toArray = ls at hl ⊢
  have hl : lv_has ls 2 [(0, .ref (ad 0))] := hl
  clear hP0
  unfold f_X11_faultPosition at hr
  refine lv_aload_n hx hb dX11_faultPosition_0 rfl (lv_at hl 0 rfl) ?_
  obtain ⟨r_2, M_1, hc1, hr⟩ := ob2_e hr
  refine xk_i (va_runV (As := []) (rest := []) ⟨hx, hb, hml, hown, hts⟩ (c_X11_faultOf l D cA ad M hc1) (cwV 0 hts gX11_faultPosition_X11_faultOf rfl rfl rfl (by decide +kernel) ⟨Nat.le_of_ble_eq_true rfl, Nat.le_of_ble_eq_true rfl⟩) (xpreV hK hW (k := 0) rfl (by decide) rfl) rfl rfl hl.1 rfl (lv_room (Nat.le_of_ble_eq_true rfl)) dX11_faultPosition_1 ⟨Nat.le_of_ble_eq_true rfl, Nat.le_of_ble_eq_true rfl⟩) hW (fun H locs hW => ?_)
  refine lv_istore_n (lv' := [(1, .int r_2), (0, .ref (ad 0))]) hx hb dX11_faultPosition_4 rfl hl (by decide) rfl (fun ls hl => ?_)
  refine lv_iload_n hx hb dX11_faultPosition_5 rfl (lv_at hl 0 rfl) ?_
  refine lv_if_ge (tgt := 14) hx hb dX11_faultPosition_6 (by decide) (fun c1 => ?_) (fun c1 => ?_)
  · have hr := br_p c1 hr
    refine lv_iload_n hx hb dX11_faultPosition_14 rfl (lv_at hl 0 rfl) ?_
    obtain ⟨e1, e2⟩ := Prod.mk.inj (Option.some.inj hr)
    rw [← e1, ← e2]
    exact xiret hx hb hr0 hlocks hW adR_rf dX11_faultPosition_15
  · have hr := br_n c1 hr
    refine lv_ldc (v := (-2000000005 : Int32)) hx hb hown (hts _ (wm 1 rfl)) dX11_faultPosition_9 ?_
    refine lv_goto (tgt := 15) hx hb dX11_faultPosition_11 (by decide) ?_
    obtain ⟨e1, e2⟩ := Prod.mk.inj (Option.some.inj hr)
    rw [← e1, ← e2]
    exact xiret hx hb hr0 hlocks hW adR_rf dX11_faultPosition_15

set_option maxHeartbeats 4000000 in
set_option maxRecDepth 100000 in
theorem c_X11_does (l : Launch) (D : va_G) (cA : Nat → ClassId) (ad : Nat → Nat) (M : Mm) {r : Int32} {M' : Mm} (hr : f_X11_does M = some (r, M')) : Met l yX11_does wsX11_does ({ frames := 5, cells := 0, slots := 0, locals := 121 }) (PcX D false cA ad M [.ref (ad 0)]) (QiX false D false cA ad r M') 0 0 (AX false ad) := by
  refine Met.ofW (cc := cX11_does) (maxL := 2) (ret := (some .boolean)) (by decide) rfl ?_
  intro p e s m args below meth c s₁ B hml hv
  obtain ⟨hav, hP0, hK⟩ := hv
  have hx := B.exec
  have hb := B.bytes
  have hr0 := B.returns
  have hts := atoms_spec (ws := wsX11_does) B.pre
  have hown : s.vm.findClass RX11 = some m.cls := findClass_of_methodNamed B.named
  have hlocks := B.notSynchronized
  have hW := xstart hP0
  have hi11 : ∀ w ∈ wsX110, w ∈ wsX11_does := fun w h => List.mem_cons_of_mem _ (List.mem_append_right _ h)
  have hl := lv_entry ([.ref (ad 0)]) (n := 2) (Nat.le_of_ble_eq_true rfl)
  have hef := lg_entry_eq m ([.ref (ad 0)]) 2
  rw [← hav] at hef
  rw [hef]
  clear hef
  generalize (lg_sl ([.ref (ad 0)]) ++ List.replicate (2 - (lg_sl ([.ref (ad 0)])).length) Slot.unset).toArray = ls at hl ⊢
  have hl : lv_has ls 2 [(0, .ref (ad 0))] := hl
  clear hP0
  unfold f_X11_does at hr
  refine lv_aload_n hx hb dX11_does_0 rfl (lv_at hl 0 rfl) ?_
  refine g11_22 hx hb hts hi11 hown hK hW (k := 0) rfl (hts _ (wm 1 rfl)) dX11_does_1 ?_
  refine lv_bipush (v := (115 : Int32)) hx hb dX11_does_4 (by decide) ?_
  refine lv_icmp_ne (tgt := 73) hx hb dX11_does_6 (by decide) (fun c1 => ?_) (fun c1 => ?_)
  · have hr := br_n c1 hr
    refine lv_aload_n hx hb dX11_does_73 rfl (lv_at hl 0 rfl) ?_
    refine g11_22 hx hb hts hi11 hown hK hW (k := 0) rfl (hts _ (wm 1 rfl)) dX11_does_74 ?_
    refine lv_bipush (v := (99 : Int32)) hx hb dX11_does_77 (by decide) ?_
    refine lv_icmp_ne (tgt := 94) hx hb dX11_does_79 (by decide) (fun c1 => ?_) (fun c1 => ?_)
    · have hr := br_n c1 hr
      refine lv_aload_n hx hb dX11_does_94 rfl (lv_at hl 0 rfl) ?_
      refine g11_22 hx hb hts hi11 hown hK hW (k := 0) rfl (hts _ (wm 1 rfl)) dX11_does_95 ?_
      refine lv_bipush (v := (99 : Int32)) hx hb dX11_does_98 (by decide) ?_
      obtain ⟨y_1, M_2, hr, hr3⟩ := ob2_e hr
      have hj114_2 : ∀ (H : Heap) (locs : List Loc) (ls : Array Slot), Xw D false cA ad M_2 (AX false ad) s.heap H locs → lv_has ls 2 [] → W p l e (headSpec wsX11_does { frames := 5, cells := 0, slots := 0, locals := 121 }).room s m args below meth c H locs 0 0 (MQ below (QiX false D false cA ad r M') args s 0 0 (AX false ad)) (F0 m 114 ls [.int y_1]) := by
        intro H locs ls hW hl
        have hr := hr3
        refine lv_istore_n (lv' := [(1, .int y_1)]) hx hb dX11_does_114 rfl hl (by decide) rfl (fun ls hl => ?_)
        refine lv_iconst (v := (1 : Int32)) hx hb dX11_does_115 (by decide) ?_
        obtain ⟨e1, e2⟩ := Prod.mk.inj (Option.some.inj hr)
        rw [← e1, ← e2]
        exact xzret hx hb hr0 hlocks hW adR_rf (by decide) dX11_does_116
      clear hr3
      refine lv_icmp_ne (tgt := 110) hx hb dX11_does_100 (by decide) (fun c1 => ?_) (fun c1 => ?_)
      · have hr := br_n c1 hr
        refine lv_aload_n hx hb dX11_does_110 rfl (lv_at hl 0 rfl) ?_
        obtain ⟨r_4, M_3, hc111, hr⟩ := ob2_e hr
        refine xk_i (va_runV (As := []) (rest := []) ⟨hx, hb, hml, hown, hts⟩ (c_X11_swaps l D cA ad M hc111) (cwV 0 hts gX11_does_X11_swaps rfl rfl rfl (by decide +kernel) ⟨Nat.le_of_ble_eq_true rfl, Nat.le_of_ble_eq_true rfl⟩) (xpreV hK hW (k := 0) rfl (by decide) rfl) rfl rfl hl.1 rfl (lv_room (Nat.le_of_ble_eq_true rfl)) dX11_does_111 ⟨Nat.le_of_ble_eq_true rfl, Nat.le_of_ble_eq_true rfl⟩) hW (fun H locs hW => ?_)
        obtain ⟨e1, e2⟩ := Prod.mk.inj (Option.some.inj hr)
        subst e1
        subst e2
        exact hj114_2 _ _ _ hW (lv_sub hl [] rfl)
      · have hr := br_p c1 hr
        refine lv_aload_n hx hb dX11_does_103 rfl (lv_at hl 0 rfl) ?_
        obtain ⟨r_6, M_5, hc104, hr⟩ := ob2_e hr
        refine xk_i (va_runV (As := []) (rest := []) ⟨hx, hb, hml, hown, hts⟩ (c_X11_closes l D cA ad M hc104) (cwV 0 hts gX11_does_X11_closes rfl rfl rfl (by decide +kernel) ⟨Nat.le_of_ble_eq_true rfl, Nat.le_of_ble_eq_true rfl⟩) (xpreV hK hW (k := 0) rfl (by decide) rfl) rfl rfl hl.1 rfl (lv_room (Nat.le_of_ble_eq_true rfl)) dX11_does_104 ⟨Nat.le_of_ble_eq_true rfl, Nat.le_of_ble_eq_true rfl⟩) hW (fun H locs hW => ?_)
        refine lv_goto (tgt := 114) hx hb dX11_does_107 (by decide) ?_
        obtain ⟨e1, e2⟩ := Prod.mk.inj (Option.some.inj hr)
        subst e1
        subst e2
        exact hj114_2 _ _ _ hW (lv_sub hl [] rfl)
    · have hr := br_p c1 hr
      refine lv_aload_n hx hb dX11_does_82 rfl (lv_at hl 0 rfl) ?_
      refine g11_0 hx hb hts hi11 hown hK hW (k := 0) rfl (hts _ (wm 3 rfl)) dX11_does_83 ?_
      refine lv_bipush (v := (64 : Int32)) hx hb dX11_does_86 (by decide) ?_
      refine xiald hx hb hK hW (k := 1) (t := 24) rfl (by decide) (by decide) rfl (n := 159) (by decide) (jx := 64) (by decide) dX11_does_88 ?_
      refine lv_if_ne (tgt := 94) hx hb dX11_does_89 (by decide) (fun c1 => ?_) (fun c1 => ?_)
      · have hr := br_n c1 hr
        refine lv_aload_n hx hb dX11_does_94 rfl (lv_at hl 0 rfl) ?_
        refine g11_22 hx hb hts hi11 hown hK hW (k := 0) rfl (hts _ (wm 1 rfl)) dX11_does_95 ?_
        refine lv_bipush (v := (99 : Int32)) hx hb dX11_does_98 (by decide) ?_
        obtain ⟨y_7, M_8, hr, hr3⟩ := ob2_e hr
        have hj114_8 : ∀ (H : Heap) (locs : List Loc) (ls : Array Slot), Xw D false cA ad M_8 (AX false ad) s.heap H locs → lv_has ls 2 [] → W p l e (headSpec wsX11_does { frames := 5, cells := 0, slots := 0, locals := 121 }).room s m args below meth c H locs 0 0 (MQ below (QiX false D false cA ad r M') args s 0 0 (AX false ad)) (F0 m 114 ls [.int y_7]) := by
          intro H locs ls hW hl
          have hr := hr3
          refine lv_istore_n (lv' := [(1, .int y_7)]) hx hb dX11_does_114 rfl hl (by decide) rfl (fun ls hl => ?_)
          refine lv_iconst (v := (1 : Int32)) hx hb dX11_does_115 (by decide) ?_
          obtain ⟨e1, e2⟩ := Prod.mk.inj (Option.some.inj hr)
          rw [← e1, ← e2]
          exact xzret hx hb hr0 hlocks hW adR_rf (by decide) dX11_does_116
        clear hr3
        refine lv_icmp_ne (tgt := 110) hx hb dX11_does_100 (by decide) (fun c1 => ?_) (fun c1 => ?_)
        · have hr := br_n c1 hr
          refine lv_aload_n hx hb dX11_does_110 rfl (lv_at hl 0 rfl) ?_
          obtain ⟨r_10, M_9, hc111, hr⟩ := ob2_e hr
          refine xk_i (va_runV (As := []) (rest := []) ⟨hx, hb, hml, hown, hts⟩ (c_X11_swaps l D cA ad M hc111) (cwV 0 hts gX11_does_X11_swaps rfl rfl rfl (by decide +kernel) ⟨Nat.le_of_ble_eq_true rfl, Nat.le_of_ble_eq_true rfl⟩) (xpreV hK hW (k := 0) rfl (by decide) rfl) rfl rfl hl.1 rfl (lv_room (Nat.le_of_ble_eq_true rfl)) dX11_does_111 ⟨Nat.le_of_ble_eq_true rfl, Nat.le_of_ble_eq_true rfl⟩) hW (fun H locs hW => ?_)
          obtain ⟨e1, e2⟩ := Prod.mk.inj (Option.some.inj hr)
          subst e1
          subst e2
          exact hj114_8 _ _ _ hW (lv_sub hl [] rfl)
        · have hr := br_p c1 hr
          refine lv_aload_n hx hb dX11_does_103 rfl (lv_at hl 0 rfl) ?_
          obtain ⟨r_12, M_11, hc104, hr⟩ := ob2_e hr
          refine xk_i (va_runV (As := []) (rest := []) ⟨hx, hb, hml, hown, hts⟩ (c_X11_closes l D cA ad M hc104) (cwV 0 hts gX11_does_X11_closes rfl rfl rfl (by decide +kernel) ⟨Nat.le_of_ble_eq_true rfl, Nat.le_of_ble_eq_true rfl⟩) (xpreV hK hW (k := 0) rfl (by decide) rfl) rfl rfl hl.1 rfl (lv_room (Nat.le_of_ble_eq_true rfl)) dX11_does_104 ⟨Nat.le_of_ble_eq_true rfl, Nat.le_of_ble_eq_true rfl⟩) hW (fun H locs hW => ?_)
          refine lv_goto (tgt := 114) hx hb dX11_does_107 (by decide) ?_
          obtain ⟨e1, e2⟩ := Prod.mk.inj (Option.some.inj hr)
          subst e1
          subst e2
          exact hj114_8 _ _ _ hW (lv_sub hl [] rfl)
      · have hr := br_p c1 hr
        refine lv_iconst (v := (0 : Int32)) hx hb dX11_does_92 (by decide) ?_
        obtain ⟨e1, e2⟩ := Prod.mk.inj (Option.some.inj hr)
        rw [← e1, ← e2]
        exact xzret hx hb hr0 hlocks hW adR_rf (by decide) dX11_does_93
  · have hr := br_p c1 hr
    refine lv_aload_n hx hb dX11_does_9 rfl (lv_at hl 0 rfl) ?_
    refine lv_aload_n hx hb dX11_does_10 rfl (lv_at hl 0 rfl) ?_
    refine g11_23 hx hb hts hi11 hown hK hW (k := 0) rfl (hts _ (wm 2 rfl)) dX11_does_11 ?_
    refine lv_iconst (v := (0 : Int32)) hx hb dX11_does_14 (by decide) ?_
    refine xiald hx hb hK hW (k := 15) (t := 20) rfl (by decide) (by decide) rfl (n := 4) (by decide) (jx := 0) (by decide) dX11_does_15 ?_
    refine lv_aload_n hx hb dX11_does_16 rfl (lv_at hl 0 rfl) ?_
    refine g11_23 hx hb hts hi11 hown hK hW (k := 0) rfl (hts _ (wm 2 rfl)) dX11_does_17 ?_
    refine lv_iconst (v := (1 : Int32)) hx hb dX11_does_20 (by decide) ?_
    refine xiald hx hb hK hW (k := 15) (t := 20) rfl (by decide) (by decide) rfl (n := 4) (by decide) (jx := 1) (by decide) dX11_does_21 ?_
    refine lv_aload_n hx hb dX11_does_22 rfl (lv_at hl 0 rfl) ?_
    refine g11_23 hx hb hts hi11 hown hK hW (k := 0) rfl (hts _ (wm 2 rfl)) dX11_does_23 ?_
    refine lv_iconst (v := (2 : Int32)) hx hb dX11_does_26 (by decide) ?_
    refine xiald hx hb hK hW (k := 15) (t := 20) rfl (by decide) (by decide) rfl (n := 4) (by decide) (jx := 2) (by decide) dX11_does_27 ?_
    refine lv_aload_n hx hb dX11_does_28 rfl (lv_at hl 0 rfl) ?_
    refine g11_23 hx hb hts hi11 hown hK hW (k := 0) rfl (hts _ (wm 2 rfl)) dX11_does_29 ?_
    refine lv_iconst (v := (3 : Int32)) hx hb dX11_does_32 (by decide) ?_
    refine xiald hx hb hK hW (k := 15) (t := 20) rfl (by decide) (by decide) rfl (n := 4) (by decide) (jx := 3) (by decide) dX11_does_33 ?_
    obtain ⟨r_13, hc34, hr⟩ := ob1_e hr
    refine xk_i (va_runV (As := [.int (gI M 15 0), .int (gI M 15 1), .int (gI M 15 2), .int (gI M 15 3)]) (rest := []) ⟨hx, hb, hml, hown, hts⟩ (c_X11_whyShot l D cA ad M (gI M 15 0) (gI M 15 1) (gI M 15 2) (gI M 15 3) hc34) (cwV 4 hts gX11_does_X11_whyShot rfl rfl rfl (by decide +kernel) ⟨Nat.le_of_ble_eq_true rfl, Nat.le_of_ble_eq_true rfl⟩) (xpreV hK hW (k := 0) rfl (by decide) rfl) rfl rfl hl.1 rfl (lv_room (Nat.le_of_ble_eq_true rfl)) dX11_does_34 ⟨Nat.le_of_ble_eq_true rfl, Nat.le_of_ble_eq_true rfl⟩) hW (fun H locs hW => ?_)
    refine lv_if_ge (tgt := 42) hx hb dX11_does_37 (by decide) (fun c1 => ?_) (fun c1 => ?_)
    · have hr := br_p c1 hr
      refine lv_aload_n hx hb dX11_does_42 rfl (lv_at hl 0 rfl) ?_
      refine lv_aload_n hx hb dX11_does_43 rfl (lv_at hl 0 rfl) ?_
      refine g11_23 hx hb hts hi11 hown hK hW (k := 0) rfl (hts _ (wm 2 rfl)) dX11_does_44 ?_
      refine lv_iconst (v := (0 : Int32)) hx hb dX11_does_47 (by decide) ?_
      refine xiald hx hb hK hW (k := 15) (t := 20) rfl (by decide) (by decide) rfl (n := 4) (by decide) (jx := 0) (by decide) dX11_does_48 ?_
      refine lv_aload_n hx hb dX11_does_49 rfl (lv_at hl 0 rfl) ?_
      refine g11_23 hx hb hts hi11 hown hK hW (k := 0) rfl (hts _ (wm 2 rfl)) dX11_does_50 ?_
      refine lv_iconst (v := (1 : Int32)) hx hb dX11_does_53 (by decide) ?_
      refine xiald hx hb hK hW (k := 15) (t := 20) rfl (by decide) (by decide) rfl (n := 4) (by decide) (jx := 1) (by decide) dX11_does_54 ?_
      refine lv_aload_n hx hb dX11_does_55 rfl (lv_at hl 0 rfl) ?_
      refine g11_23 hx hb hts hi11 hown hK hW (k := 0) rfl (hts _ (wm 2 rfl)) dX11_does_56 ?_
      refine lv_iconst (v := (2 : Int32)) hx hb dX11_does_59 (by decide) ?_
      refine xiald hx hb hK hW (k := 15) (t := 20) rfl (by decide) (by decide) rfl (n := 4) (by decide) (jx := 2) (by decide) dX11_does_60 ?_
      refine lv_aload_n hx hb dX11_does_61 rfl (lv_at hl 0 rfl) ?_
      refine g11_23 hx hb hts hi11 hown hK hW (k := 0) rfl (hts _ (wm 2 rfl)) dX11_does_62 ?_
      refine lv_iconst (v := (3 : Int32)) hx hb dX11_does_65 (by decide) ?_
      refine xiald hx hb hK hW (k := 15) (t := 20) rfl (by decide) (by decide) rfl (n := 4) (by decide) (jx := 3) (by decide) dX11_does_66 ?_
      obtain ⟨r_15, M_14, hc67, hr⟩ := ob2_e hr
      refine xk_i (va_runV (As := [.int (gI M 15 0), .int (gI M 15 1), .int (gI M 15 2), .int (gI M 15 3)]) (rest := []) ⟨hx, hb, hml, hown, hts⟩ (c_X11_shoots l D cA ad M (gI M 15 0) (gI M 15 1) (gI M 15 2) (gI M 15 3) hc67) (cwV 4 hts gX11_does_X11_shoots rfl rfl rfl (by decide +kernel) ⟨Nat.le_of_ble_eq_true rfl, Nat.le_of_ble_eq_true rfl⟩) (xpreV hK hW (k := 0) rfl (by decide) rfl) rfl rfl hl.1 rfl (lv_room (Nat.le_of_ble_eq_true rfl)) dX11_does_67 ⟨Nat.le_of_ble_eq_true rfl, Nat.le_of_ble_eq_true rfl⟩) hW (fun H locs hW => ?_)
      refine lv_istore_n (lv' := [(1, .int r_15), (0, .ref (ad 0))]) hx hb dX11_does_70 rfl hl (by decide) rfl (fun ls hl => ?_)
      refine lv_iconst (v := (1 : Int32)) hx hb dX11_does_71 (by decide) ?_
      obtain ⟨e1, e2⟩ := Prod.mk.inj (Option.some.inj hr)
      rw [← e1, ← e2]
      exact xzret hx hb hr0 hlocks hW adR_rf (by decide) dX11_does_72
    · have hr := br_n c1 hr
      refine lv_iconst (v := (0 : Int32)) hx hb dX11_does_40 (by decide) ?_
      obtain ⟨e1, e2⟩ := Prod.mk.inj (Option.some.inj hr)
      rw [← e1, ← e2]
      exact xzret hx hb hr0 hlocks hW adR_rf (by decide) dX11_does_41

set_option maxHeartbeats 4000000 in
set_option maxRecDepth 100000 in
theorem c_X11_run (l : Launch) (D : va_G) (cA : Nat → ClassId) (ad : Nat → Nat) (M : Mm) {r : Int32} {M' : Mm} (hr : f_X11_run M = some (r, M')) : Met l yX11_run wsX11_run ({ frames := 6, cells := 0, slots := 0, locals := 142 }) (PcX D false cA ad M [.ref (ad 0)]) (QiX false D false cA ad r M') 0 0 (AX false ad) := by
  refine Met.ofW (cc := cX11_run) (maxL := 2) (ret := (some .int)) (by decide) rfl ?_
  intro p e s m args below meth c s₁ B hml hv
  obtain ⟨hav, hP0, hK⟩ := hv
  have hx := B.exec
  have hb := B.bytes
  have hr0 := B.returns
  have hts := atoms_spec (ws := wsX11_run) B.pre
  have hown : s.vm.findClass RX11 = some m.cls := findClass_of_methodNamed B.named
  have hlocks := B.notSynchronized
  have hW := xstart hP0
  have hi11 : ∀ w ∈ wsX110, w ∈ wsX11_run := fun w h => List.mem_cons_of_mem _ (List.mem_append_right _ h)
  have hl := lv_entry ([.ref (ad 0)]) (n := 2) (Nat.le_of_ble_eq_true rfl)
  have hef := lg_entry_eq m ([.ref (ad 0)]) 2
  rw [← hav] at hef
  rw [hef]
  clear hef
  generalize (lg_sl ([.ref (ad 0)]) ++ List.replicate (2 - (lg_sl ([.ref (ad 0)])).length) Slot.unset).toArray = ls at hl ⊢
  have hl : lv_has ls 2 [(0, .ref (ad 0))] := hl
  clear hP0
  unfold f_X11_run at hr
  refine lv_aload_n hx hb dX11_run_0 rfl (lv_at hl 0 rfl) ?_
  obtain ⟨r_2, M_1, hc1, hr⟩ := ob2_e hr
  refine xk_i (va_runV (As := []) (rest := []) ⟨hx, hb, hml, hown, hts⟩ (c_X11_faultOf l D cA ad M hc1) (cwV 0 hts gX11_run_X11_faultOf rfl rfl rfl (by decide +kernel) ⟨Nat.le_of_ble_eq_true rfl, Nat.le_of_ble_eq_true rfl⟩) (xpreV hK hW (k := 0) rfl (by decide) rfl) rfl rfl hl.1 rfl (lv_room (Nat.le_of_ble_eq_true rfl)) dX11_run_1 ⟨Nat.le_of_ble_eq_true rfl, Nat.le_of_ble_eq_true rfl⟩) hW (fun H locs hW => ?_)
  refine lv_if_lt (tgt := 10) hx hb dX11_run_4 (by decide) (fun c1 => ?_) (fun c1 => ?_)
  · have hr := br_p c1 hr
    refine lv_aload_n hx hb dX11_run_10 rfl (lv_at hl 0 rfl) ?_
    obtain ⟨M_3, hc11, hr⟩ := ob1_e hr
    refine xk_v (va_runV (As := []) (rest := []) ⟨hx, hb, hml, hown, hts⟩ (c_X11_records l D cA ad M_1 hc11) (cwV 0 hts gX11_run_X11_records rfl rfl rfl (by decide +kernel) ⟨Nat.le_of_ble_eq_true rfl, Nat.le_of_ble_eq_true rfl⟩) (xpreV hK hW (k := 0) rfl (by decide) rfl) rfl rfl hl.1 rfl (lv_room (Nat.le_of_ble_eq_true rfl)) dX11_run_11 ⟨Nat.le_of_ble_eq_true rfl, Nat.le_of_ble_eq_true rfl⟩) hW (fun H locs hW => ?_)
    refine lv_aload_n hx hb dX11_run_14 rfl (lv_at hl 0 rfl) ?_
    refine lv_iconst (v := (0 : Int32)) hx hb dX11_run_15 (by decide) ?_
    obtain ⟨M_4, eM_4, hr⟩ := lt1_e hr
    refine p11_21 hx hb hts hi11 hown hK hW (k := 0) rfl (hts _ (wm 2 rfl)) dX11_run_16 (fun H locs hW => ?_)
    rw [← eM_4] at hW
    refine lv_iconst (v := (0 : Int32)) hx hb dX11_run_19 (by decide) ?_
    refine lv_istore_n (lv' := [(1, .int (0 : Int32)), (0, .ref (ad 0))]) hx hb dX11_run_20 rfl hl (by decide) rfl (fun ls hl => ?_)
    have hL21_1 : ∀ (n : Nat) (x1_5 : Int32) (M_6 : Mm) (H : Heap) (locs : List Loc) (ls : Array Slot) (x1_7 : Int32) (M_8 : Mm), Xw D false cA ad M_6 (AX false ad) s.heap H locs → lv_has ls 2 [(0, .ref (ad 0)), (1, .int x1_5)] → f_X11_run_L21 n x1_5 M_6 = some (x1_7, M_8) → (∀ (H : Heap) (locs : List Loc) (ls : Array Slot), Xw D false cA ad M_8 (AX false ad) s.heap H locs → lv_has ls 2 [(1, .int x1_7)] → W p l e (headSpec wsX11_run { frames := 6, cells := 0, slots := 0, locals := 142 }).room s m args below meth c H locs 0 0 (MQ below (QiX false D false cA ad r M') args s 0 0 (AX false ad)) (F0 m 52 ls [])) → W p l e (headSpec wsX11_run { frames := 6, cells := 0, slots := 0, locals := 142 }).room s m args below meth c H locs 0 0 (MQ below (QiX false D false cA ad r M') args s 0 0 (AX false ad)) (F0 m 21 ls []) := by
      intro n
      induction n with
      | zero =>
        intro x1_5 M_6 H locs ls x1_7 M_8 hW hl hr hk
        exact absurd hr (by simp [f_X11_run_L21])
      | succ n ih =>
        intro x1_5 M_6 H locs ls x1_7 M_8 hW hl hr hk
        rw [f_X11_run_L21] at hr
        refine lv_aload_n hx hb dX11_run_21 rfl (lv_at hl 0 rfl) ?_
        refine g11_21 hx hb hts hi11 hown hK hW (k := 0) rfl (hts _ (wm 2 rfl)) dX11_run_22 ?_
        refine lv_aload_n hx hb dX11_run_25 rfl (lv_at hl 0 rfl) ?_
        refine g11_9 hx hb hts hi11 hown hK hW (k := 0) rfl (hts _ (wm 3 rfl)) dX11_run_26 ?_
        refine lv_icmp_ge (tgt := 52) hx hb dX11_run_29 (by decide) (fun c1 => ?_) (fun c1 => ?_)
        · have hr := br_p c1 hr
          obtain ⟨e1, e2⟩ := Prod.mk.inj (Option.some.inj hr)
          subst e1
          subst e2
          exact hk _ _ _ hW (lv_sub hl [1] rfl)
        · have hr := br_n c1 hr
          refine lv_aload_n hx hb dX11_run_32 rfl (lv_at hl 0 rfl) ?_
          obtain ⟨r_10, M_9, hc33, hr⟩ := ob2_e hr
          refine xk_i (va_runV (As := []) (rest := []) ⟨hx, hb, hml, hown, hts⟩ (c_X11_readAct l D cA ad M_6 hc33) (cwV 0 hts gX11_run_X11_readAct rfl rfl rfl (by decide +kernel) ⟨Nat.le_of_ble_eq_true rfl, Nat.le_of_ble_eq_true rfl⟩) (xpreV hK hW (k := 0) rfl (by decide) rfl) rfl rfl hl.1 rfl (lv_room (Nat.le_of_ble_eq_true rfl)) dX11_run_33 ⟨Nat.le_of_ble_eq_true rfl, Nat.le_of_ble_eq_true rfl⟩) hW (fun H locs hW => ?_)
          refine lv_if_eq (tgt := 52) hx hb dX11_run_36 (by decide) (fun c1 => ?_) (fun c1 => ?_)
          · have hr := br_p c1 hr
            obtain ⟨e1, e2⟩ := Prod.mk.inj (Option.some.inj hr)
            subst e1
            subst e2
            exact hk _ _ _ hW (lv_sub hl [1] rfl)
          · have hr := br_n c1 hr
            refine lv_aload_n hx hb dX11_run_39 rfl (lv_at hl 0 rfl) ?_
            obtain ⟨r_12, M_11, hc40, hr⟩ := ob2_e hr
            refine xk_i (va_runV (As := []) (rest := []) ⟨hx, hb, hml, hown, hts⟩ (c_X11_does l D cA ad M_9 hc40) (cwV 0 hts gX11_run_X11_does rfl rfl rfl (by decide +kernel) ⟨Nat.le_of_ble_eq_true rfl, Nat.le_of_ble_eq_true rfl⟩) (xpreV hK hW (k := 0) rfl (by decide) rfl) rfl rfl hl.1 rfl (lv_room (Nat.le_of_ble_eq_true rfl)) dX11_run_40 ⟨Nat.le_of_ble_eq_true rfl, Nat.le_of_ble_eq_true rfl⟩) hW (fun H locs hW => ?_)
            refine lv_if_eq (tgt := 52) hx hb dX11_run_43 (by decide) (fun c1 => ?_) (fun c1 => ?_)
            · have hr := br_p c1 hr
              obtain ⟨e1, e2⟩ := Prod.mk.inj (Option.some.inj hr)
              subst e1
              subst e2
              exact hk _ _ _ hW (lv_sub hl [1] rfl)
            · have hr := br_n c1 hr
              obtain ⟨x1_13, ex1_13, hr⟩ := lt1_e hr
              refine lv_iinc (v := x1_13) (lv' := [(1, .int x1_13), (0, .ref (ad 0))]) hx hb dX11_run_46 hl (k := 1) rfl (by rw [ex1_13]; rfl) (by decide) rfl (fun ls hl => ?_)
              refine lv_goto (tgt := 21) hx hb dX11_run_49 (by decide) ?_
              exact ih x1_13 M_11 _ _ _ _ _ hW (lv_sub hl [1, 0] rfl) hr hk
    obtain ⟨x1_7, M_8, hr, hr3⟩ := ob2_e hr
    refine hL21_1 1000 (0 : Int32) M_4 _ _ _ x1_7 M_8 hW (lv_sub hl [1, 0] rfl) hr (fun H locs ls hW hl => ?_)
    clear hr
    have hr := hr3
    refine lv_iload_n hx hb dX11_run_52 rfl (lv_at hl 0 rfl) ?_
    obtain ⟨e1, e2⟩ := Prod.mk.inj (Option.some.inj hr)
    rw [← e1, ← e2]
    exact xiret hx hb hr0 hlocks hW adR_rf dX11_run_53
  · have hr := br_n c1 hr
    refine lv_ldc (v := (-2000000003 : Int32)) hx hb hown (hts _ (wm 1 rfl)) dX11_run_7 ?_
    obtain ⟨e1, e2⟩ := Prod.mk.inj (Option.some.inj hr)
    rw [← e1, ← e2]
    exact xiret hx hb hr0 hlocks hW adR_rf dX11_run_9

set_option maxHeartbeats 4000000 in
set_option maxRecDepth 100000 in
theorem c_X11_undo (l : Launch) (D : va_G) (cA : Nat → ClassId) (ad : Nat → Nat) (M : Mm) {r : Int32} {M' : Mm} (hr : f_X11_undo M = some (r, M')) : Met l yX11_undo wsX11_undo ({ frames := 0, cells := 0, slots := 0, locals := 0 }) (PcX D false cA ad M [.ref (ad 0)]) (QiX false D false cA ad r M') 0 0 (AX false ad) := by
  refine Met.ofW (cc := cX11_undo) (maxL := 2) (ret := (some .int)) (by decide) rfl ?_
  intro p e s m args below meth c s₁ B hml hv
  obtain ⟨hav, hP0, hK⟩ := hv
  have hx := B.exec
  have hb := B.bytes
  have hr0 := B.returns
  have hts := atoms_spec (ws := wsX11_undo) B.pre
  have hown : s.vm.findClass RX11 = some m.cls := findClass_of_methodNamed B.named
  have hlocks := B.notSynchronized
  have hW := xstart hP0
  have hi11 : ∀ w ∈ wsX110, w ∈ wsX11_undo := fun w h => List.mem_cons_of_mem _ (List.mem_append_right _ h)
  have hl := lv_entry ([.ref (ad 0)]) (n := 2) (Nat.le_of_ble_eq_true rfl)
  have hef := lg_entry_eq m ([.ref (ad 0)]) 2
  rw [← hav] at hef
  rw [hef]
  clear hef
  generalize (lg_sl ([.ref (ad 0)]) ++ List.replicate (2 - (lg_sl ([.ref (ad 0)])).length) Slot.unset).toArray = ls at hl ⊢
  have hl : lv_has ls 2 [(0, .ref (ad 0))] := hl
  clear hP0
  unfold f_X11_undo at hr
  refine lv_aload_n hx hb dX11_undo_0 rfl (lv_at hl 0 rfl) ?_
  refine g11_4 hx hb hts hi11 hown hK hW (k := 0) rfl (hts _ (wm 1 rfl)) dX11_undo_1 ?_
  refine lv_if_ne (tgt := 10) hx hb dX11_undo_4 (by decide) (fun c1 => ?_) (fun c1 => ?_)
  · have hr := br_n c1 hr
    refine lv_aload_n hx hb dX11_undo_10 rfl (lv_at hl 0 rfl) ?_
    refine lv_dup hx hb dX11_undo_11 rfl ?_
    refine g11_4 hx hb hts hi11 hown hK hW (k := 0) rfl (hts _ (wm 1 rfl)) dX11_undo_12 ?_
    refine lv_iconst (v := (1 : Int32)) hx hb dX11_undo_15 (by decide) ?_
    refine lv_isub hx hb dX11_undo_16 ?_
    obtain ⟨M_1, eM_1, hr⟩ := lt1_e hr
    refine p11_4 hx hb hts hi11 hown hK hW (k := 0) rfl (hts _ (wm 1 rfl)) dX11_undo_17 (fun H locs hW => ?_)
    rw [← eM_1] at hW
    refine lv_iconst (v := (0 : Int32)) hx hb dX11_undo_20 (by decide) ?_
    refine lv_istore_n (lv' := [(1, .int (0 : Int32)), (0, .ref (ad 0))]) hx hb dX11_undo_21 rfl hl (by decide) rfl (fun ls hl => ?_)
    have hL22_1 : ∀ (n : Nat) (x1_2 : Int32) (M_3 : Mm) (H : Heap) (locs : List Loc) (ls : Array Slot) (M_4 : Mm), Xw D false cA ad M_3 (AX false ad) s.heap H locs → lv_has ls 2 [(0, .ref (ad 0)), (1, .int x1_2)] → f_X11_undo_L22 n x1_2 M_3 = some M_4 → (∀ (H : Heap) (locs : List Loc) (ls : Array Slot), Xw D false cA ad M_4 (AX false ad) s.heap H locs → lv_has ls 2 [(0, .ref (ad 0))] → W p l e (headSpec wsX11_undo { frames := 0, cells := 0, slots := 0, locals := 0 }).room s m args below meth c H locs 0 0 (MQ below (QiX false D false cA ad r M') args s 0 0 (AX false ad)) (F0 m 56 ls [])) → W p l e (headSpec wsX11_undo { frames := 0, cells := 0, slots := 0, locals := 0 }).room s m args below meth c H locs 0 0 (MQ below (QiX false D false cA ad r M') args s 0 0 (AX false ad)) (F0 m 22 ls []) := by
      intro n
      induction n with
      | zero =>
        intro x1_2 M_3 H locs ls M_4 hW hl hr hk
        exact absurd hr (by simp [f_X11_undo_L22])
      | succ n ih =>
        intro x1_2 M_3 H locs ls M_4 hW hl hr hk
        rw [f_X11_undo_L22] at hr
        refine lv_iload_n hx hb dX11_undo_22 rfl (lv_at hl 1 rfl) ?_
        refine lv_sipush (v := (159 : Int32)) hx hb dX11_undo_23 (by decide) ?_
        refine lv_icmp_ge (tgt := 56) hx hb dX11_undo_26 (by decide) (fun c1 => ?_) (fun c1 => ?_)
        · have hr := br_p c1 hr
          have e1 := Option.some.inj hr
          subst e1
          exact hk _ _ _ hW (lv_sub hl [0] rfl)
        · have hr := br_n c1 hr
          refine lv_aload_n hx hb dX11_undo_29 rfl (lv_at hl 0 rfl) ?_
          refine g11_0 hx hb hts hi11 hown hK hW (k := 0) rfl (hts _ (wm 3 rfl)) dX11_undo_30 ?_
          refine lv_iload_n hx hb dX11_undo_33 rfl (lv_at hl 1 rfl) ?_
          refine lv_aload_n hx hb dX11_undo_34 rfl (lv_at hl 0 rfl) ?_
          refine g11_2 hx hb hts hi11 hown hK hW (k := 0) rfl (hts _ (wm 4 rfl)) dX11_undo_35 ?_
          refine lv_sipush (v := (159 : Int32)) hx hb dX11_undo_38 (by decide) ?_
          refine lv_aload_n hx hb dX11_undo_41 rfl (lv_at hl 0 rfl) ?_
          refine g11_4 hx hb hts hi11 hown hK hW (k := 0) rfl (hts _ (wm 1 rfl)) dX11_undo_42 ?_
          refine lv_imul hx hb dX11_undo_45 ?_
          refine lv_iload_n hx hb dX11_undo_46 rfl (lv_at hl 1 rfl) ?_
          refine lv_iadd hx hb dX11_undo_47 ?_
          obtain ⟨hn48, hr⟩ := chk_e hr
          refine xiald hx hb hK hW (k := 3) (t := 25) rfl (by decide) (by decide) rfl (n := 795) hn48 (jx := (ix (((159 : Int32) * (gI M_3 0 4)) + x1_2))) rfl dX11_undo_48 ?_
          obtain ⟨hn49, hr⟩ := chk_e hr
          obtain ⟨M_5, eM_5, hr⟩ := lt1_e hr
          refine xiast hx hb hK hW (k := 1) (t := 24) rfl (by decide) (by decide) rfl (n := 159) hn49 (jx := (ix x1_2)) rfl dX11_undo_49 (fun H locs hW => ?_)
          rw [← eM_5] at hW
          obtain ⟨x1_6, ex1_6, hr⟩ := lt1_e hr
          refine lv_iinc (v := x1_6) (lv' := [(1, .int x1_6), (0, .ref (ad 0))]) hx hb dX11_undo_50 hl (k := 1) rfl (by rw [ex1_6]; rfl) (by decide) rfl (fun ls hl => ?_)
          refine lv_goto (tgt := 22) hx hb dX11_undo_53 (by decide) ?_
          exact ih x1_6 M_5 _ _ _ _ hW (lv_sub hl [1, 0] rfl) hr hk
    obtain ⟨M_4, hr, hr3⟩ := ob1_e hr
    refine hL22_1 1000 (0 : Int32) M_1 _ _ _ M_4 hW (lv_sub hl [1, 0] rfl) hr (fun H locs ls hW hl => ?_)
    clear hr
    have hr := hr3
    refine lv_aload_n hx hb dX11_undo_56 rfl (lv_at hl 0 rfl) ?_
    refine g11_1 hx hb hts hi11 hown hK hW (k := 0) rfl (hts _ (wm 5 rfl)) dX11_undo_57 ?_
    refine lv_iconst (v := (0 : Int32)) hx hb dX11_undo_60 (by decide) ?_
    refine lv_aload_n hx hb dX11_undo_61 rfl (lv_at hl 0 rfl) ?_
    refine g11_3 hx hb hts hi11 hown hK hW (k := 0) rfl (hts _ (wm 6 rfl)) dX11_undo_62 ?_
    refine lv_iconst (v := (2 : Int32)) hx hb dX11_undo_65 (by decide) ?_
    refine lv_aload_n hx hb dX11_undo_66 rfl (lv_at hl 0 rfl) ?_
    refine g11_4 hx hb hts hi11 hown hK hW (k := 0) rfl (hts _ (wm 1 rfl)) dX11_undo_67 ?_
    refine lv_imul hx hb dX11_undo_70 ?_
    obtain ⟨hn71, hr⟩ := chk_e hr
    refine xlald hx hb hK hW (k := 4) (t := 41) rfl (by decide) (by decide) rfl (n := 10) hn71 (jx := (ix ((2 : Int32) * (gI M_4 0 4)))) rfl dX11_undo_71 ?_
    obtain ⟨M_7, eM_7, hr⟩ := lt1_e hr
    refine xlast hx hb hK hW (k := 2) (t := 40) rfl (by decide) (by decide) rfl (n := 2) (by decide) (jx := 0) (by decide) dX11_undo_72 (fun H locs hW => ?_)
    rw [← eM_7] at hW
    refine lv_aload_n hx hb dX11_undo_73 rfl (lv_at hl 0 rfl) ?_
    refine g11_1 hx hb hts hi11 hown hK hW (k := 0) rfl (hts _ (wm 5 rfl)) dX11_undo_74 ?_
    refine lv_iconst (v := (1 : Int32)) hx hb dX11_undo_77 (by decide) ?_
    refine lv_aload_n hx hb dX11_undo_78 rfl (lv_at hl 0 rfl) ?_
    refine g11_3 hx hb hts hi11 hown hK hW (k := 0) rfl (hts _ (wm 6 rfl)) dX11_undo_79 ?_
    refine lv_iconst (v := (2 : Int32)) hx hb dX11_undo_82 (by decide) ?_
    refine lv_aload_n hx hb dX11_undo_83 rfl (lv_at hl 0 rfl) ?_
    refine g11_4 hx hb hts hi11 hown hK hW (k := 0) rfl (hts _ (wm 1 rfl)) dX11_undo_84 ?_
    refine lv_imul hx hb dX11_undo_87 ?_
    refine lv_iconst (v := (1 : Int32)) hx hb dX11_undo_88 (by decide) ?_
    refine lv_iadd hx hb dX11_undo_89 ?_
    obtain ⟨hn90, hr⟩ := chk_e hr
    refine xlald hx hb hK hW (k := 4) (t := 41) rfl (by decide) (by decide) rfl (n := 10) hn90 (jx := (ix (((2 : Int32) * (gI M_7 0 4)) + (1 : Int32)))) rfl dX11_undo_90 ?_
    obtain ⟨M_8, eM_8, hr⟩ := lt1_e hr
    refine xlast hx hb hK hW (k := 2) (t := 40) rfl (by decide) (by decide) rfl (n := 2) (by decide) (jx := 1) (by decide) dX11_undo_91 (fun H locs hW => ?_)
    rw [← eM_8] at hW
    refine lv_aload_n hx hb dX11_undo_92 rfl (lv_at hl 0 rfl) ?_
    refine g11_4 hx hb hts hi11 hown hK hW (k := 0) rfl (hts _ (wm 1 rfl)) dX11_undo_93 ?_
    obtain ⟨e1, e2⟩ := Prod.mk.inj (Option.some.inj hr)
    rw [← e1, ← e2]
    exact xiret hx hb hr0 hlocks hW adR_rf dX11_undo_96
  · have hr := br_p c1 hr
    refine lv_ldc (v := (-2000000003 : Int32)) hx hb hown (hts _ (wm 2 rfl)) dX11_undo_7 ?_
    obtain ⟨e1, e2⟩ := Prod.mk.inj (Option.some.inj hr)
    rw [← e1, ← e2]
    exact xiret hx hb hr0 hlocks hW adR_rf dX11_undo_9

set_option maxHeartbeats 4000000 in
set_option maxRecDepth 100000 in
theorem c_X11_save (l : Launch) (D : va_G) (cA : Nat → ClassId) (ad : Nat → Nat) (M : Mm) (x1 : Int32) {r : Int32} {M' : Mm} (hr : f_X11_save x1 M = some (r, M')) : Met l yX11_save wsX11_save ({ frames := 1, cells := 0, slots := 0, locals := 22 }) (PcX D false cA ad M [.ref (ad 0), .int x1]) (QiX false D false cA ad r M') 0 0 (AX false ad) := by
  refine Met.ofW (cc := cX11_save) (maxL := 3) (ret := (some .int)) (by decide) rfl ?_
  intro p e s m args below meth c s₁ B hml hv
  obtain ⟨hav, hP0, hK⟩ := hv
  have hx := B.exec
  have hb := B.bytes
  have hr0 := B.returns
  have hts := atoms_spec (ws := wsX11_save) B.pre
  have hown : s.vm.findClass RX11 = some m.cls := findClass_of_methodNamed B.named
  have hlocks := B.notSynchronized
  have hW := xstart hP0
  have hi11 : ∀ w ∈ wsX110, w ∈ wsX11_save := fun w h => List.mem_cons_of_mem _ (List.mem_append_right _ h)
  have hl := lv_entry ([.ref (ad 0), .int x1]) (n := 3) (Nat.le_of_ble_eq_true rfl)
  have hef := lg_entry_eq m ([.ref (ad 0), .int x1]) 3
  rw [← hav] at hef
  rw [hef]
  clear hef
  generalize (lg_sl ([.ref (ad 0), .int x1]) ++ List.replicate (3 - (lg_sl ([.ref (ad 0), .int x1])).length) Slot.unset).toArray = ls at hl ⊢
  have hl : lv_has ls 3 [(0, .ref (ad 0)), (1, .int x1)] := hl
  clear hP0
  unfold f_X11_save at hr
  refine lv_iload_n hx hb dX11_save_0 rfl (lv_at hl 1 rfl) ?_
  refine lv_iconst (v := (0 : Int32)) hx hb dX11_save_1 (by decide) ?_
  refine lv_iconst (v := (1 : Int32)) hx hb dX11_save_2 (by decide) ?_
  obtain ⟨r_1, hc3, hr⟩ := ob1_e hr
  refine xk_i (va_runS (As := [.int x1, .int (0 : Int32), .int (1 : Int32)]) (rest := []) ⟨hx, hb, hml, hown, hts⟩ (c_X11_in l D cA ad M x1 (0 : Int32) (1 : Int32) hc3) (va_cwS 3 hts gX11_save_X11_in rfl rfl rfl (by decide +kernel) ⟨Nat.le_of_ble_eq_true rfl, Nat.le_of_ble_eq_true rfl⟩) (xpreS hK hW) rfl rfl hl.1 rfl (lv_room (Nat.le_of_ble_eq_true rfl)) dX11_save_3 ⟨Nat.le_of_ble_eq_true rfl, Nat.le_of_ble_eq_true rfl⟩) hW (fun H locs hW => ?_)
  refine lv_if_ne (tgt := 12) hx hb dX11_save_6 (by decide) (fun c1 => ?_) (fun c1 => ?_)
  · have hr := br_n c1 hr
    refine lv_iconst (v := (0 : Int32)) hx hb dX11_save_12 (by decide) ?_
    refine lv_istore_n (lv' := [(2, .int (0 : Int32)), (0, .ref (ad 0)), (1, .int x1)]) hx hb dX11_save_13 rfl hl (by decide) rfl (fun ls hl => ?_)
    have hL14_1 : ∀ (n : Nat) (x2_2 : Int32) (M_3 : Mm) (H : Heap) (locs : List Loc) (ls : Array Slot) (M_4 : Mm), Xw D false cA ad M_3 (AX false ad) s.heap H locs → lv_has ls 3 [(0, .ref (ad 0)), (1, .int x1), (2, .int x2_2)] → f_X11_save_L14 x1 n x2_2 M_3 = some M_4 → (∀ (H : Heap) (locs : List Loc) (ls : Array Slot), Xw D false cA ad M_4 (AX false ad) s.heap H locs → lv_has ls 3 [(0, .ref (ad 0)), (1, .int x1)] → W p l e (headSpec wsX11_save { frames := 1, cells := 0, slots := 0, locals := 22 }).room s m args below meth c H locs 0 0 (MQ below (QiX false D false cA ad r M') args s 0 0 (AX false ad)) (F0 m 45 ls [])) → W p l e (headSpec wsX11_save { frames := 1, cells := 0, slots := 0, locals := 22 }).room s m args below meth c H locs 0 0 (MQ below (QiX false D false cA ad r M') args s 0 0 (AX false ad)) (F0 m 14 ls []) := by
      intro n
      induction n with
      | zero =>
        intro x2_2 M_3 H locs ls M_4 hW hl hr hk
        exact absurd hr (by simp [f_X11_save_L14])
      | succ n ih =>
        intro x2_2 M_3 H locs ls M_4 hW hl hr hk
        rw [f_X11_save_L14] at hr
        refine lv_iload_n hx hb dX11_save_14 rfl (lv_at hl 2 rfl) ?_
        refine lv_sipush (v := (159 : Int32)) hx hb dX11_save_15 (by decide) ?_
        refine lv_icmp_ge (tgt := 45) hx hb dX11_save_18 (by decide) (fun c1 => ?_) (fun c1 => ?_)
        · have hr := br_p c1 hr
          have e1 := Option.some.inj hr
          subst e1
          exact hk _ _ _ hW (lv_sub hl [0, 1] rfl)
        · have hr := br_n c1 hr
          refine lv_aload_n hx hb dX11_save_21 rfl (lv_at hl 0 rfl) ?_
          refine g11_5 hx hb hts hi11 hown hK hW (k := 0) rfl (hts _ (wm 2 rfl)) dX11_save_22 ?_
          refine lv_sipush (v := (159 : Int32)) hx hb dX11_save_25 (by decide) ?_
          refine lv_iload_n hx hb dX11_save_28 rfl (lv_at hl 1 rfl) ?_
          refine lv_imul hx hb dX11_save_29 ?_
          refine lv_iload_n hx hb dX11_save_30 rfl (lv_at hl 2 rfl) ?_
          refine lv_iadd hx hb dX11_save_31 ?_
          refine lv_aload_n hx hb dX11_save_32 rfl (lv_at hl 0 rfl) ?_
          refine g11_0 hx hb hts hi11 hown hK hW (k := 0) rfl (hts _ (wm 3 rfl)) dX11_save_33 ?_
          refine lv_iload_n hx hb dX11_save_36 rfl (lv_at hl 2 rfl) ?_
          obtain ⟨hn37, hr⟩ := chk_e hr
          refine xiald hx hb hK hW (k := 1) (t := 24) rfl (by decide) (by decide) rfl (n := 159) hn37 (jx := (ix x2_2)) rfl dX11_save_37 ?_
          obtain ⟨hn38, hr⟩ := chk_e hr
          obtain ⟨M_5, eM_5, hr⟩ := lt1_e hr
          refine xiast hx hb hK hW (k := 5) (t := 26) rfl (by decide) (by decide) rfl (n := 318) hn38 (jx := (ix (((159 : Int32) * x1) + x2_2))) rfl dX11_save_38 (fun H locs hW => ?_)
          rw [← eM_5] at hW
          obtain ⟨x2_6, ex2_6, hr⟩ := lt1_e hr
          refine lv_iinc (v := x2_6) (lv' := [(2, .int x2_6), (0, .ref (ad 0)), (1, .int x1)]) hx hb dX11_save_39 hl (k := 2) rfl (by rw [ex2_6]; rfl) (by decide) rfl (fun ls hl => ?_)
          refine lv_goto (tgt := 14) hx hb dX11_save_42 (by decide) ?_
          exact ih x2_6 M_5 _ _ _ _ hW (lv_sub hl [1, 2, 0] rfl) hr hk
    obtain ⟨M_4, hr, hr3⟩ := ob1_e hr
    refine hL14_1 1000 (0 : Int32) M _ _ _ M_4 hW (lv_sub hl [1, 2, 0] rfl) hr (fun H locs ls hW hl => ?_)
    clear hr
    have hr := hr3
    refine lv_aload_n hx hb dX11_save_45 rfl (lv_at hl 0 rfl) ?_
    refine g11_6 hx hb hts hi11 hown hK hW (k := 0) rfl (hts _ (wm 4 rfl)) dX11_save_46 ?_
    refine lv_iconst (v := (2 : Int32)) hx hb dX11_save_49 (by decide) ?_
    refine lv_iload_n hx hb dX11_save_50 rfl (lv_at hl 1 rfl) ?_
    refine lv_imul hx hb dX11_save_51 ?_
    refine lv_aload_n hx hb dX11_save_52 rfl (lv_at hl 0 rfl) ?_
    refine g11_1 hx hb hts hi11 hown hK hW (k := 0) rfl (hts _ (wm 5 rfl)) dX11_save_53 ?_
    refine lv_iconst (v := (0 : Int32)) hx hb dX11_save_56 (by decide) ?_
    refine xlald hx hb hK hW (k := 2) (t := 40) rfl (by decide) (by decide) rfl (n := 2) (by decide) (jx := 0) (by decide) dX11_save_57 ?_
    obtain ⟨hn58, hr⟩ := chk_e hr
    obtain ⟨M_7, eM_7, hr⟩ := lt1_e hr
    refine xlast hx hb hK hW (k := 6) (t := 42) rfl (by decide) (by decide) rfl (n := 4) hn58 (jx := (ix ((2 : Int32) * x1))) rfl dX11_save_58 (fun H locs hW => ?_)
    rw [← eM_7] at hW
    refine lv_aload_n hx hb dX11_save_59 rfl (lv_at hl 0 rfl) ?_
    refine g11_6 hx hb hts hi11 hown hK hW (k := 0) rfl (hts _ (wm 4 rfl)) dX11_save_60 ?_
    refine lv_iconst (v := (2 : Int32)) hx hb dX11_save_63 (by decide) ?_
    refine lv_iload_n hx hb dX11_save_64 rfl (lv_at hl 1 rfl) ?_
    refine lv_imul hx hb dX11_save_65 ?_
    refine lv_iconst (v := (1 : Int32)) hx hb dX11_save_66 (by decide) ?_
    refine lv_iadd hx hb dX11_save_67 ?_
    refine lv_aload_n hx hb dX11_save_68 rfl (lv_at hl 0 rfl) ?_
    refine g11_1 hx hb hts hi11 hown hK hW (k := 0) rfl (hts _ (wm 5 rfl)) dX11_save_69 ?_
    refine lv_iconst (v := (1 : Int32)) hx hb dX11_save_72 (by decide) ?_
    refine xlald hx hb hK hW (k := 2) (t := 40) rfl (by decide) (by decide) rfl (n := 2) (by decide) (jx := 1) (by decide) dX11_save_73 ?_
    obtain ⟨hn74, hr⟩ := chk_e hr
    obtain ⟨M_8, eM_8, hr⟩ := lt1_e hr
    refine xlast hx hb hK hW (k := 6) (t := 42) rfl (by decide) (by decide) rfl (n := 4) hn74 (jx := (ix (((2 : Int32) * x1) + (1 : Int32)))) rfl dX11_save_74 (fun H locs hW => ?_)
    rw [← eM_8] at hW
    refine lv_aload_n hx hb dX11_save_75 rfl (lv_at hl 0 rfl) ?_
    refine g11_7 hx hb hts hi11 hown hK hW (k := 0) rfl (hts _ (wm 6 rfl)) dX11_save_76 ?_
    refine lv_iload_n hx hb dX11_save_79 rfl (lv_at hl 1 rfl) ?_
    refine lv_iconst (v := (1 : Int32)) hx hb dX11_save_80 (by decide) ?_
    obtain ⟨hn81, hr⟩ := chk_e hr
    obtain ⟨M_9, eM_9, hr⟩ := lt1_e hr
    refine xzast hx hb hK hW (k := 7) (t := 31) rfl (by decide) (by decide) rfl (n := 2) hn81 (jx := (ix x1)) rfl (by decide) dX11_save_81 (fun H locs hW => ?_)
    rw [← eM_9] at hW
    refine lv_aload_n hx hb dX11_save_82 rfl (lv_at hl 0 rfl) ?_
    refine g11_0 hx hb hts hi11 hown hK hW (k := 0) rfl (hts _ (wm 3 rfl)) dX11_save_83 ?_
    refine lv_bipush (v := (84 : Int32)) hx hb dX11_save_86 (by decide) ?_
    refine xiald hx hb hK hW (k := 1) (t := 24) rfl (by decide) (by decide) rfl (n := 159) (by decide) (jx := 84) (by decide) dX11_save_88 ?_
    obtain ⟨e1, e2⟩ := Prod.mk.inj (Option.some.inj hr)
    rw [← e1, ← e2]
    exact xiret hx hb hr0 hlocks hW adR_rf dX11_save_89
  · have hr := br_p c1 hr
    refine lv_ldc (v := (-2000000001 : Int32)) hx hb hown (hts _ (wm 1 rfl)) dX11_save_9 ?_
    obtain ⟨e1, e2⟩ := Prod.mk.inj (Option.some.inj hr)
    rw [← e1, ← e2]
    exact xiret hx hb hr0 hlocks hW adR_rf dX11_save_11

set_option maxHeartbeats 4000000 in
set_option maxRecDepth 100000 in
theorem c_X11_restore (l : Launch) (D : va_G) (cA : Nat → ClassId) (ad : Nat → Nat) (M : Mm) (x1 : Int32) {r : Int32} {M' : Mm} (hr : f_X11_restore x1 M = some (r, M')) : Met l yX11_restore wsX11_restore ({ frames := 1, cells := 0, slots := 0, locals := 22 }) (PcX D false cA ad M [.ref (ad 0), .int x1]) (QiX false D false cA ad r M') 0 0 (AX false ad) := by
  refine Met.ofW (cc := cX11_restore) (maxL := 3) (ret := (some .int)) (by decide) rfl ?_
  intro p e s m args below meth c s₁ B hml hv
  obtain ⟨hav, hP0, hK⟩ := hv
  have hx := B.exec
  have hb := B.bytes
  have hr0 := B.returns
  have hts := atoms_spec (ws := wsX11_restore) B.pre
  have hown : s.vm.findClass RX11 = some m.cls := findClass_of_methodNamed B.named
  have hlocks := B.notSynchronized
  have hW := xstart hP0
  have hi11 : ∀ w ∈ wsX110, w ∈ wsX11_restore := fun w h => List.mem_cons_of_mem _ (List.mem_append_right _ h)
  have hl := lv_entry ([.ref (ad 0), .int x1]) (n := 3) (Nat.le_of_ble_eq_true rfl)
  have hef := lg_entry_eq m ([.ref (ad 0), .int x1]) 3
  rw [← hav] at hef
  rw [hef]
  clear hef
  generalize (lg_sl ([.ref (ad 0), .int x1]) ++ List.replicate (3 - (lg_sl ([.ref (ad 0), .int x1])).length) Slot.unset).toArray = ls at hl ⊢
  have hl : lv_has ls 3 [(0, .ref (ad 0)), (1, .int x1)] := hl
  clear hP0
  unfold f_X11_restore at hr
  refine lv_iload_n hx hb dX11_restore_0 rfl (lv_at hl 1 rfl) ?_
  refine lv_iconst (v := (0 : Int32)) hx hb dX11_restore_1 (by decide) ?_
  refine lv_iconst (v := (1 : Int32)) hx hb dX11_restore_2 (by decide) ?_
  obtain ⟨r_1, hc3, hr⟩ := ob1_e hr
  refine xk_i (va_runS (As := [.int x1, .int (0 : Int32), .int (1 : Int32)]) (rest := []) ⟨hx, hb, hml, hown, hts⟩ (c_X11_in l D cA ad M x1 (0 : Int32) (1 : Int32) hc3) (va_cwS 3 hts gX11_restore_X11_in rfl rfl rfl (by decide +kernel) ⟨Nat.le_of_ble_eq_true rfl, Nat.le_of_ble_eq_true rfl⟩) (xpreS hK hW) rfl rfl hl.1 rfl (lv_room (Nat.le_of_ble_eq_true rfl)) dX11_restore_3 ⟨Nat.le_of_ble_eq_true rfl, Nat.le_of_ble_eq_true rfl⟩) hW (fun H locs hW => ?_)
  refine lv_if_ne (tgt := 12) hx hb dX11_restore_6 (by decide) (fun c1 => ?_) (fun c1 => ?_)
  · have hr := br_n c1 hr
    refine lv_aload_n hx hb dX11_restore_12 rfl (lv_at hl 0 rfl) ?_
    refine g11_7 hx hb hts hi11 hown hK hW (k := 0) rfl (hts _ (wm 2 rfl)) dX11_restore_13 ?_
    refine lv_iload_n hx hb dX11_restore_16 rfl (lv_at hl 1 rfl) ?_
    obtain ⟨hn17, hr⟩ := chk_e hr
    refine xzald hx hb hK hW (k := 7) (t := 31) rfl (by decide) (by decide) rfl (n := 2) hn17 (jx := (ix x1)) rfl dX11_restore_17 ?_
    refine lv_if_ne (tgt := 24) hx hb dX11_restore_18 (by decide) (fun c1 => ?_) (fun c1 => ?_)
    · have hr := br_n c1 hr
      refine lv_aload_n hx hb dX11_restore_24 rfl (lv_at hl 0 rfl) ?_
      obtain ⟨M_2, hc25, hr⟩ := ob1_e hr
      refine xk_v (va_runV (As := []) (rest := []) ⟨hx, hb, hml, hown, hts⟩ (c_X11_records l D cA ad M hc25) (cwV 0 hts gX11_restore_X11_records rfl rfl rfl (by decide +kernel) ⟨Nat.le_of_ble_eq_true rfl, Nat.le_of_ble_eq_true rfl⟩) (xpreV hK hW (k := 0) rfl (by decide) rfl) rfl rfl hl.1 rfl (lv_room (Nat.le_of_ble_eq_true rfl)) dX11_restore_25 ⟨Nat.le_of_ble_eq_true rfl, Nat.le_of_ble_eq_true rfl⟩) hW (fun H locs hW => ?_)
      refine lv_iconst (v := (0 : Int32)) hx hb dX11_restore_28 (by decide) ?_
      refine lv_istore_n (lv' := [(2, .int (0 : Int32)), (0, .ref (ad 0)), (1, .int x1)]) hx hb dX11_restore_29 rfl hl (by decide) rfl (fun ls hl => ?_)
      have hL30_1 : ∀ (n : Nat) (x2_3 : Int32) (M_4 : Mm) (H : Heap) (locs : List Loc) (ls : Array Slot) (M_5 : Mm), Xw D false cA ad M_4 (AX false ad) s.heap H locs → lv_has ls 3 [(0, .ref (ad 0)), (1, .int x1), (2, .int x2_3)] → f_X11_restore_L30 x1 n x2_3 M_4 = some M_5 → (∀ (H : Heap) (locs : List Loc) (ls : Array Slot), Xw D false cA ad M_5 (AX false ad) s.heap H locs → lv_has ls 3 [(0, .ref (ad 0)), (1, .int x1)] → W p l e (headSpec wsX11_restore { frames := 1, cells := 0, slots := 0, locals := 22 }).room s m args below meth c H locs 0 0 (MQ below (QiX false D false cA ad r M') args s 0 0 (AX false ad)) (F0 m 61 ls [])) → W p l e (headSpec wsX11_restore { frames := 1, cells := 0, slots := 0, locals := 22 }).room s m args below meth c H locs 0 0 (MQ below (QiX false D false cA ad r M') args s 0 0 (AX false ad)) (F0 m 30 ls []) := by
        intro n
        induction n with
        | zero =>
          intro x2_3 M_4 H locs ls M_5 hW hl hr hk
          exact absurd hr (by simp [f_X11_restore_L30])
        | succ n ih =>
          intro x2_3 M_4 H locs ls M_5 hW hl hr hk
          rw [f_X11_restore_L30] at hr
          refine lv_iload_n hx hb dX11_restore_30 rfl (lv_at hl 2 rfl) ?_
          refine lv_sipush (v := (159 : Int32)) hx hb dX11_restore_31 (by decide) ?_
          refine lv_icmp_ge (tgt := 61) hx hb dX11_restore_34 (by decide) (fun c1 => ?_) (fun c1 => ?_)
          · have hr := br_p c1 hr
            have e1 := Option.some.inj hr
            subst e1
            exact hk _ _ _ hW (lv_sub hl [0, 1] rfl)
          · have hr := br_n c1 hr
            refine lv_aload_n hx hb dX11_restore_37 rfl (lv_at hl 0 rfl) ?_
            refine g11_0 hx hb hts hi11 hown hK hW (k := 0) rfl (hts _ (wm 4 rfl)) dX11_restore_38 ?_
            refine lv_iload_n hx hb dX11_restore_41 rfl (lv_at hl 2 rfl) ?_
            refine lv_aload_n hx hb dX11_restore_42 rfl (lv_at hl 0 rfl) ?_
            refine g11_5 hx hb hts hi11 hown hK hW (k := 0) rfl (hts _ (wm 5 rfl)) dX11_restore_43 ?_
            refine lv_sipush (v := (159 : Int32)) hx hb dX11_restore_46 (by decide) ?_
            refine lv_iload_n hx hb dX11_restore_49 rfl (lv_at hl 1 rfl) ?_
            refine lv_imul hx hb dX11_restore_50 ?_
            refine lv_iload_n hx hb dX11_restore_51 rfl (lv_at hl 2 rfl) ?_
            refine lv_iadd hx hb dX11_restore_52 ?_
            obtain ⟨hn53, hr⟩ := chk_e hr
            refine xiald hx hb hK hW (k := 5) (t := 26) rfl (by decide) (by decide) rfl (n := 318) hn53 (jx := (ix (((159 : Int32) * x1) + x2_3))) rfl dX11_restore_53 ?_
            obtain ⟨hn54, hr⟩ := chk_e hr
            obtain ⟨M_6, eM_6, hr⟩ := lt1_e hr
            refine xiast hx hb hK hW (k := 1) (t := 24) rfl (by decide) (by decide) rfl (n := 159) hn54 (jx := (ix x2_3)) rfl dX11_restore_54 (fun H locs hW => ?_)
            rw [← eM_6] at hW
            obtain ⟨x2_7, ex2_7, hr⟩ := lt1_e hr
            refine lv_iinc (v := x2_7) (lv' := [(2, .int x2_7), (0, .ref (ad 0)), (1, .int x1)]) hx hb dX11_restore_55 hl (k := 2) rfl (by rw [ex2_7]; rfl) (by decide) rfl (fun ls hl => ?_)
            refine lv_goto (tgt := 30) hx hb dX11_restore_58 (by decide) ?_
            exact ih x2_7 M_6 _ _ _ _ hW (lv_sub hl [1, 2, 0] rfl) hr hk
      obtain ⟨M_5, hr, hr3⟩ := ob1_e hr
      refine hL30_1 1000 (0 : Int32) M_2 _ _ _ M_5 hW (lv_sub hl [1, 2, 0] rfl) hr (fun H locs ls hW hl => ?_)
      clear hr
      have hr := hr3
      refine lv_aload_n hx hb dX11_restore_61 rfl (lv_at hl 0 rfl) ?_
      refine g11_1 hx hb hts hi11 hown hK hW (k := 0) rfl (hts _ (wm 6 rfl)) dX11_restore_62 ?_
      refine lv_iconst (v := (0 : Int32)) hx hb dX11_restore_65 (by decide) ?_
      refine lv_aload_n hx hb dX11_restore_66 rfl (lv_at hl 0 rfl) ?_
      refine g11_6 hx hb hts hi11 hown hK hW (k := 0) rfl (hts _ (wm 7 rfl)) dX11_restore_67 ?_
      refine lv_iconst (v := (2 : Int32)) hx hb dX11_restore_70 (by decide) ?_
      refine lv_iload_n hx hb dX11_restore_71 rfl (lv_at hl 1 rfl) ?_
      refine lv_imul hx hb dX11_restore_72 ?_
      obtain ⟨hn73, hr⟩ := chk_e hr
      refine xlald hx hb hK hW (k := 6) (t := 42) rfl (by decide) (by decide) rfl (n := 4) hn73 (jx := (ix ((2 : Int32) * x1))) rfl dX11_restore_73 ?_
      obtain ⟨M_8, eM_8, hr⟩ := lt1_e hr
      refine xlast hx hb hK hW (k := 2) (t := 40) rfl (by decide) (by decide) rfl (n := 2) (by decide) (jx := 0) (by decide) dX11_restore_74 (fun H locs hW => ?_)
      rw [← eM_8] at hW
      refine lv_aload_n hx hb dX11_restore_75 rfl (lv_at hl 0 rfl) ?_
      refine g11_1 hx hb hts hi11 hown hK hW (k := 0) rfl (hts _ (wm 6 rfl)) dX11_restore_76 ?_
      refine lv_iconst (v := (1 : Int32)) hx hb dX11_restore_79 (by decide) ?_
      refine lv_aload_n hx hb dX11_restore_80 rfl (lv_at hl 0 rfl) ?_
      refine g11_6 hx hb hts hi11 hown hK hW (k := 0) rfl (hts _ (wm 7 rfl)) dX11_restore_81 ?_
      refine lv_iconst (v := (2 : Int32)) hx hb dX11_restore_84 (by decide) ?_
      refine lv_iload_n hx hb dX11_restore_85 rfl (lv_at hl 1 rfl) ?_
      refine lv_imul hx hb dX11_restore_86 ?_
      refine lv_iconst (v := (1 : Int32)) hx hb dX11_restore_87 (by decide) ?_
      refine lv_iadd hx hb dX11_restore_88 ?_
      obtain ⟨hn89, hr⟩ := chk_e hr
      refine xlald hx hb hK hW (k := 6) (t := 42) rfl (by decide) (by decide) rfl (n := 4) hn89 (jx := (ix (((2 : Int32) * x1) + (1 : Int32)))) rfl dX11_restore_89 ?_
      obtain ⟨M_9, eM_9, hr⟩ := lt1_e hr
      refine xlast hx hb hK hW (k := 2) (t := 40) rfl (by decide) (by decide) rfl (n := 2) (by decide) (jx := 1) (by decide) dX11_restore_90 (fun H locs hW => ?_)
      rw [← eM_9] at hW
      refine lv_aload_n hx hb dX11_restore_91 rfl (lv_at hl 0 rfl) ?_
      refine g11_0 hx hb hts hi11 hown hK hW (k := 0) rfl (hts _ (wm 4 rfl)) dX11_restore_92 ?_
      refine lv_bipush (v := (84 : Int32)) hx hb dX11_restore_95 (by decide) ?_
      refine xiald hx hb hK hW (k := 1) (t := 24) rfl (by decide) (by decide) rfl (n := 159) (by decide) (jx := 84) (by decide) dX11_restore_97 ?_
      obtain ⟨e1, e2⟩ := Prod.mk.inj (Option.some.inj hr)
      rw [← e1, ← e2]
      exact xiret hx hb hr0 hlocks hW adR_rf dX11_restore_98
    · have hr := br_p c1 hr
      refine lv_ldc (v := (-2000000003 : Int32)) hx hb hown (hts _ (wm 3 rfl)) dX11_restore_21 ?_
      obtain ⟨e1, e2⟩ := Prod.mk.inj (Option.some.inj hr)
      rw [← e1, ← e2]
      exact xiret hx hb hr0 hlocks hW adR_rf dX11_restore_23
  · have hr := br_p c1 hr
    refine lv_ldc (v := (-2000000001 : Int32)) hx hb hown (hts _ (wm 1 rfl)) dX11_restore_9 ?_
    obtain ⟨e1, e2⟩ := Prod.mk.inj (Option.some.inj hr)
    rw [← e1, ← e2]
    exact xiret hx hb hr0 hlocks hW adR_rf dX11_restore_11

set_option maxHeartbeats 4000000 in
set_option maxRecDepth 100000 in
theorem c_X11_fails (l : Launch) (D : va_G) (cA : Nat → ClassId) (ad : Nat → Nat) (M : Mm) (x1 : Int32) {r : Int32} (hr : f_X11_fails x1 M = some r) : Met l yX11_fails wsX11_fails ({ frames := 1, cells := 0, slots := 0, locals := 22 }) (PcX D false cA ad M [.ref (ad 0), .int x1]) (QiX false D false cA ad r M) 0 0 (AX false ad) := by
  refine Met.ofW (cc := cX11_fails) (maxL := 2) (ret := (some .boolean)) (by decide) rfl ?_
  intro p e s m args below meth c s₁ B hml hv
  obtain ⟨hav, hP0, hK⟩ := hv
  have hx := B.exec
  have hb := B.bytes
  have hr0 := B.returns
  have hts := atoms_spec (ws := wsX11_fails) B.pre
  have hown : s.vm.findClass RX11 = some m.cls := findClass_of_methodNamed B.named
  have hlocks := B.notSynchronized
  have hW := xstart hP0
  have hl := lv_entry ([.ref (ad 0), .int x1]) (n := 2) (Nat.le_of_ble_eq_true rfl)
  have hef := lg_entry_eq m ([.ref (ad 0), .int x1]) 2
  rw [← hav] at hef
  rw [hef]
  clear hef
  generalize (lg_sl ([.ref (ad 0), .int x1]) ++ List.replicate (2 - (lg_sl ([.ref (ad 0), .int x1])).length) Slot.unset).toArray = ls at hl ⊢
  have hl : lv_has ls 2 [(0, .ref (ad 0)), (1, .int x1)] := hl
  clear hP0
  unfold f_X11_fails at hr
  refine lv_aload_n hx hb dX11_fails_0 rfl (lv_at hl 0 rfl) ?_
  refine lv_iload_n hx hb dX11_fails_1 rfl (lv_at hl 1 rfl) ?_
  refine lv_bipush (v := (10 : Int32)) hx hb dX11_fails_2 (by decide) ?_
  obtain ⟨r_1, hc4, hr⟩ := ob1_e hr
  refine xk_i (va_runV (As := [.int x1, .int (10 : Int32)]) (rest := []) ⟨hx, hb, hml, hown, hts⟩ (c_X11_of l D cA ad M x1 (10 : Int32) hc4) (cwV 2 hts gX11_fails_X11_of rfl rfl rfl (by decide +kernel) ⟨Nat.le_of_ble_eq_true rfl, Nat.le_of_ble_eq_true rfl⟩) (xpreV hK hW (k := 0) rfl (by decide) rfl) rfl rfl hl.1 rfl (lv_room (Nat.le_of_ble_eq_true rfl)) dX11_fails_4 ⟨Nat.le_of_ble_eq_true rfl, Nat.le_of_ble_eq_true rfl⟩) hW (fun H locs hW => ?_)
  refine lv_iconst (v := (3 : Int32)) hx hb dX11_fails_7 (by decide) ?_
  refine lv_icmp_lt (tgt := 15) hx hb dX11_fails_8 (by decide) (fun c1 => ?_) (fun c1 => ?_)
  · have hr := br_p c1 hr
    refine lv_iconst (v := (0 : Int32)) hx hb dX11_fails_15 (by decide) ?_
    rw [← Option.some.inj hr]
    exact xzret hx hb hr0 hlocks hW adR_rf (by decide) dX11_fails_16
  · have hr := br_n c1 hr
    refine lv_iconst (v := (1 : Int32)) hx hb dX11_fails_11 (by decide) ?_
    refine lv_goto (tgt := 16) hx hb dX11_fails_12 (by decide) ?_
    rw [← Option.some.inj hr]
    exact xzret hx hb hr0 hlocks hW adR_rf (by decide) dX11_fails_16

set_option maxHeartbeats 4000000 in
set_option maxRecDepth 100000 in
theorem c_X11_path (l : Launch) (D : va_G) (cA : Nat → ClassId) (ad : Nat → Nat) (M : Mm) (x1 : Int32) (x2 : Int32) {r : Int32} (hr : f_X11_path x1 x2 M = some r) : Met l yX11_path wsX11_path ({ frames := 2, cells := 0, slots := 0, locals := 43 }) (PcX D false cA ad M [.ref (ad 0), .int x1, .int x2]) (QiX false D false cA ad r M) 0 0 (AX false ad) := by
  refine Met.ofW (cc := cX11_path) (maxL := 3) (ret := (some .int)) (by decide) rfl ?_
  intro p e s m args below meth c s₁ B hml hv
  obtain ⟨hav, hP0, hK⟩ := hv
  have hx := B.exec
  have hb := B.bytes
  have hr0 := B.returns
  have hts := atoms_spec (ws := wsX11_path) B.pre
  have hown : s.vm.findClass RX11 = some m.cls := findClass_of_methodNamed B.named
  have hlocks := B.notSynchronized
  have hW := xstart hP0
  have hl := lv_entry ([.ref (ad 0), .int x1, .int x2]) (n := 3) (Nat.le_of_ble_eq_true rfl)
  have hef := lg_entry_eq m ([.ref (ad 0), .int x1, .int x2]) 3
  rw [← hav] at hef
  rw [hef]
  clear hef
  generalize (lg_sl ([.ref (ad 0), .int x1, .int x2]) ++ List.replicate (3 - (lg_sl ([.ref (ad 0), .int x1, .int x2])).length) Slot.unset).toArray = ls at hl ⊢
  have hl : lv_has ls 3 [(0, .ref (ad 0)), (1, .int x1), (2, .int x2)] := hl
  clear hP0
  unfold f_X11_path at hr
  refine lv_aload_n hx hb dX11_path_0 rfl (lv_at hl 0 rfl) ?_
  refine lv_iload_n hx hb dX11_path_1 rfl (lv_at hl 1 rfl) ?_
  obtain ⟨r_1, hc2, hr⟩ := ob1_e hr
  refine xk_i (va_runV (As := [.int x1]) (rest := []) ⟨hx, hb, hml, hown, hts⟩ (c_X11_isPath l D cA ad M x1 hc2) (cwV 1 hts gX11_path_X11_isPath rfl rfl rfl (by decide +kernel) ⟨Nat.le_of_ble_eq_true rfl, Nat.le_of_ble_eq_true rfl⟩) (xpreV hK hW (k := 0) rfl (by decide) rfl) rfl rfl hl.1 rfl (lv_room (Nat.le_of_ble_eq_true rfl)) dX11_path_2 ⟨Nat.le_of_ble_eq_true rfl, Nat.le_of_ble_eq_true rfl⟩) hW (fun H locs hW => ?_)
  refine lv_if_ne (tgt := 11) hx hb dX11_path_5 (by decide) (fun c1 => ?_) (fun c1 => ?_)
  · have hr := br_n c1 hr
    refine lv_iload_n hx hb dX11_path_11 rfl (lv_at hl 2 rfl) ?_
    refine lv_iconst (v := (0 : Int32)) hx hb dX11_path_12 (by decide) ?_
    refine lv_bipush (v := (13 : Int32)) hx hb dX11_path_13 (by decide) ?_
    obtain ⟨r_2, hc15, hr⟩ := ob1_e hr
    refine xk_i (va_runS (As := [.int x2, .int (0 : Int32), .int (13 : Int32)]) (rest := []) ⟨hx, hb, hml, hown, hts⟩ (c_X11_in l D cA ad M x2 (0 : Int32) (13 : Int32) hc15) (va_cwS 3 hts gX11_path_X11_in rfl rfl rfl (by decide +kernel) ⟨Nat.le_of_ble_eq_true rfl, Nat.le_of_ble_eq_true rfl⟩) (xpreS hK hW) rfl rfl hl.1 rfl (lv_room (Nat.le_of_ble_eq_true rfl)) dX11_path_15 ⟨Nat.le_of_ble_eq_true rfl, Nat.le_of_ble_eq_true rfl⟩) hW (fun H locs hW => ?_)
    refine lv_if_ne (tgt := 24) hx hb dX11_path_18 (by decide) (fun c1 => ?_) (fun c1 => ?_)
    · have hr := br_n c1 hr
      refine lv_iload_n hx hb dX11_path_24 rfl (lv_at hl 2 rfl) ?_
      refine lv_bipush (v := (13 : Int32)) hx hb dX11_path_25 (by decide) ?_
      refine lv_icmp_ne (tgt := 46) hx hb dX11_path_27 (by decide) (fun c1 => ?_) (fun c1 => ?_)
      · have hr := br_n c1 hr
        refine lv_aload_n hx hb dX11_path_46 rfl (lv_at hl 0 rfl) ?_
        refine lv_iload_n hx hb dX11_path_47 rfl (lv_at hl 1 rfl) ?_
        refine lv_iload_n hx hb dX11_path_48 rfl (lv_at hl 2 rfl) ?_
        obtain ⟨r_3, hc49, hr⟩ := ob1_e hr
        refine xk_i (va_runV (As := [.int x1, .int x2]) (rest := []) ⟨hx, hb, hml, hown, hts⟩ (c_X11_of l D cA ad M x1 x2 hc49) (cwV 2 hts gX11_path_X11_of rfl rfl rfl (by decide +kernel) ⟨Nat.le_of_ble_eq_true rfl, Nat.le_of_ble_eq_true rfl⟩) (xpreV hK hW (k := 0) rfl (by decide) rfl) rfl rfl hl.1 rfl (lv_room (Nat.le_of_ble_eq_true rfl)) dX11_path_49 ⟨Nat.le_of_ble_eq_true rfl, Nat.le_of_ble_eq_true rfl⟩) hW (fun H locs hW => ?_)
        rw [← Option.some.inj hr]
        exact xiret hx hb hr0 hlocks hW adR_rf dX11_path_52
      · have hr := br_p c1 hr
        refine lv_aload_n hx hb dX11_path_30 rfl (lv_at hl 0 rfl) ?_
        refine lv_iload_n hx hb dX11_path_31 rfl (lv_at hl 1 rfl) ?_
        obtain ⟨r_4, hc32, hr⟩ := ob1_e hr
        refine xk_i (va_runV (As := [.int x1]) (rest := []) ⟨hx, hb, hml, hown, hts⟩ (c_X11_fails l D cA ad M x1 hc32) (cwV 1 hts gX11_path_X11_fails rfl rfl rfl (by decide +kernel) ⟨Nat.le_of_ble_eq_true rfl, Nat.le_of_ble_eq_true rfl⟩) (xpreV hK hW (k := 0) rfl (by decide) rfl) rfl rfl hl.1 rfl (lv_room (Nat.le_of_ble_eq_true rfl)) dX11_path_32 ⟨Nat.le_of_ble_eq_true rfl, Nat.le_of_ble_eq_true rfl⟩) hW (fun H locs hW => ?_)
        refine lv_if_eq (tgt := 42) hx hb dX11_path_35 (by decide) (fun c1 => ?_) (fun c1 => ?_)
        · have hr := br_p c1 hr
          refine lv_iconst (v := (0 : Int32)) hx hb dX11_path_42 (by decide) ?_
          refine lv_goto (tgt := 52) hx hb dX11_path_43 (by decide) ?_
          rw [← Option.some.inj hr]
          exact xiret hx hb hr0 hlocks hW adR_rf dX11_path_52
        · have hr := br_n c1 hr
          refine lv_iconst (v := (1 : Int32)) hx hb dX11_path_38 (by decide) ?_
          refine lv_goto (tgt := 52) hx hb dX11_path_39 (by decide) ?_
          rw [← Option.some.inj hr]
          exact xiret hx hb hr0 hlocks hW adR_rf dX11_path_52
    · have hr := br_p c1 hr
      refine lv_ldc (v := (-2000000002 : Int32)) hx hb hown (hts _ (wm 2 rfl)) dX11_path_21 ?_
      rw [← Option.some.inj hr]
      exact xiret hx hb hr0 hlocks hW adR_rf dX11_path_23
  · have hr := br_p c1 hr
    refine lv_ldc (v := (-2000000001 : Int32)) hx hb hown (hts _ (wm 1 rfl)) dX11_path_8 ?_
    rw [← Option.some.inj hr]
    exact xiret hx hb hr0 hlocks hW adR_rf dX11_path_10

set_option maxHeartbeats 4000000 in
set_option maxRecDepth 100000 in
theorem c_X11_told (l : Launch) (D : va_G) (cA : Nat → ClassId) (ad : Nat → Nat) (M : Mm) (x1 : Int32) (x2 : Int32) {r : Int32} (hr : f_X11_told x1 x2 M = some r) : Met l yX11_told wsX11_told ({ frames := 2, cells := 0, slots := 0, locals := 43 }) (PcX D false cA ad M [.ref (ad 0), .int x1, .int x2]) (QiX false D false cA ad r M) 0 0 (AX false ad) := by
  refine Met.ofW (cc := cX11_told) (maxL := 3) (ret := (some .int)) (by decide) rfl ?_
  intro p e s m args below meth c s₁ B hml hv
  obtain ⟨hav, hP0, hK⟩ := hv
  have hx := B.exec
  have hb := B.bytes
  have hr0 := B.returns
  have hts := atoms_spec (ws := wsX11_told) B.pre
  have hown : s.vm.findClass RX11 = some m.cls := findClass_of_methodNamed B.named
  have hlocks := B.notSynchronized
  have hW := xstart hP0
  have hl := lv_entry ([.ref (ad 0), .int x1, .int x2]) (n := 3) (Nat.le_of_ble_eq_true rfl)
  have hef := lg_entry_eq m ([.ref (ad 0), .int x1, .int x2]) 3
  rw [← hav] at hef
  rw [hef]
  clear hef
  generalize (lg_sl ([.ref (ad 0), .int x1, .int x2]) ++ List.replicate (3 - (lg_sl ([.ref (ad 0), .int x1, .int x2])).length) Slot.unset).toArray = ls at hl ⊢
  have hl : lv_has ls 3 [(0, .ref (ad 0)), (1, .int x1), (2, .int x2)] := hl
  clear hP0
  unfold f_X11_told at hr
  refine lv_aload_n hx hb dX11_told_0 rfl (lv_at hl 0 rfl) ?_
  refine lv_iload_n hx hb dX11_told_1 rfl (lv_at hl 1 rfl) ?_
  obtain ⟨r_1, hc2, hr⟩ := ob1_e hr
  refine xk_i (va_runV (As := [.int x1]) (rest := []) ⟨hx, hb, hml, hown, hts⟩ (c_X11_isPath l D cA ad M x1 hc2) (cwV 1 hts gX11_told_X11_isPath rfl rfl rfl (by decide +kernel) ⟨Nat.le_of_ble_eq_true rfl, Nat.le_of_ble_eq_true rfl⟩) (xpreV hK hW (k := 0) rfl (by decide) rfl) rfl rfl hl.1 rfl (lv_room (Nat.le_of_ble_eq_true rfl)) dX11_told_2 ⟨Nat.le_of_ble_eq_true rfl, Nat.le_of_ble_eq_true rfl⟩) hW (fun H locs hW => ?_)
  refine lv_if_ne (tgt := 11) hx hb dX11_told_5 (by decide) (fun c1 => ?_) (fun c1 => ?_)
  · have hr := br_n c1 hr
    refine lv_iload_n hx hb dX11_told_11 rfl (lv_at hl 2 rfl) ?_
    refine lv_iconst (v := (0 : Int32)) hx hb dX11_told_12 (by decide) ?_
    refine lv_iconst (v := (2 : Int32)) hx hb dX11_told_13 (by decide) ?_
    obtain ⟨r_2, hc14, hr⟩ := ob1_e hr
    refine xk_i (va_runS (As := [.int x2, .int (0 : Int32), .int (2 : Int32)]) (rest := []) ⟨hx, hb, hml, hown, hts⟩ (c_X11_in l D cA ad M x2 (0 : Int32) (2 : Int32) hc14) (va_cwS 3 hts gX11_told_X11_in rfl rfl rfl (by decide +kernel) ⟨Nat.le_of_ble_eq_true rfl, Nat.le_of_ble_eq_true rfl⟩) (xpreS hK hW) rfl rfl hl.1 rfl (lv_room (Nat.le_of_ble_eq_true rfl)) dX11_told_14 ⟨Nat.le_of_ble_eq_true rfl, Nat.le_of_ble_eq_true rfl⟩) hW (fun H locs hW => ?_)
    refine lv_if_ne (tgt := 23) hx hb dX11_told_17 (by decide) (fun c1 => ?_) (fun c1 => ?_)
    · have hr := br_n c1 hr
      refine lv_aload_n hx hb dX11_told_23 rfl (lv_at hl 0 rfl) ?_
      refine lv_iload_n hx hb dX11_told_24 rfl (lv_at hl 1 rfl) ?_
      refine lv_bipush (v := (13 : Int32)) hx hb dX11_told_25 (by decide) ?_
      obtain ⟨r_3, hc27, hr⟩ := ob1_e hr
      refine xk_i (va_runV (As := [.int x1, .int (13 : Int32)]) (rest := []) ⟨hx, hb, hml, hown, hts⟩ (c_X11_of l D cA ad M x1 (13 : Int32) hc27) (cwV 2 hts gX11_told_X11_of rfl rfl rfl (by decide +kernel) ⟨Nat.le_of_ble_eq_true rfl, Nat.le_of_ble_eq_true rfl⟩) (xpreV hK hW (k := 0) rfl (by decide) rfl) rfl rfl hl.1 rfl (lv_room (Nat.le_of_ble_eq_true rfl)) dX11_told_27 ⟨Nat.le_of_ble_eq_true rfl, Nat.le_of_ble_eq_true rfl⟩) hW (fun H locs hW => ?_)
      refine lv_ldc (v := (-2000000005 : Int32)) hx hb hown (hts _ (wm 3 rfl)) dX11_told_30 ?_
      refine lv_icmp_ne (tgt := 40) hx hb dX11_told_32 (by decide) (fun c1 => ?_) (fun c1 => ?_)
      · have hr := br_n c1 hr
        refine lv_aload_n hx hb dX11_told_40 rfl (lv_at hl 0 rfl) ?_
        refine lv_iload_n hx hb dX11_told_41 rfl (lv_at hl 1 rfl) ?_
        refine lv_bipush (v := (13 : Int32)) hx hb dX11_told_42 (by decide) ?_
        refine lv_iload_n hx hb dX11_told_44 rfl (lv_at hl 2 rfl) ?_
        refine lv_iadd hx hb dX11_told_45 ?_
        obtain ⟨r_4, hc46, hr⟩ := ob1_e hr
        refine xk_i (va_runV (As := [.int x1, .int ((13 : Int32) + x2)]) (rest := []) ⟨hx, hb, hml, hown, hts⟩ (c_X11_of l D cA ad M x1 ((13 : Int32) + x2) hc46) (cwV 2 hts gX11_told_X11_of rfl rfl rfl (by decide +kernel) ⟨Nat.le_of_ble_eq_true rfl, Nat.le_of_ble_eq_true rfl⟩) (xpreV hK hW (k := 0) rfl (by decide) rfl) rfl rfl hl.1 rfl (lv_room (Nat.le_of_ble_eq_true rfl)) dX11_told_46 ⟨Nat.le_of_ble_eq_true rfl, Nat.le_of_ble_eq_true rfl⟩) hW (fun H locs hW => ?_)
        rw [← Option.some.inj hr]
        exact xiret hx hb hr0 hlocks hW adR_rf dX11_told_49
      · have hr := br_p c1 hr
        refine lv_ldc (v := (-2000000005 : Int32)) hx hb hown (hts _ (wm 3 rfl)) dX11_told_35 ?_
        refine lv_goto (tgt := 49) hx hb dX11_told_37 (by decide) ?_
        rw [← Option.some.inj hr]
        exact xiret hx hb hr0 hlocks hW adR_rf dX11_told_49
    · have hr := br_p c1 hr
      refine lv_ldc (v := (-2000000002 : Int32)) hx hb hown (hts _ (wm 2 rfl)) dX11_told_20 ?_
      rw [← Option.some.inj hr]
      exact xiret hx hb hr0 hlocks hW adR_rf dX11_told_22
  · have hr := br_p c1 hr
    refine lv_ldc (v := (-2000000001 : Int32)) hx hb hown (hts _ (wm 1 rfl)) dX11_told_8 ?_
    rw [← Option.some.inj hr]
    exact xiret hx hb hr0 hlocks hW adR_rf dX11_told_10

set_option maxHeartbeats 4000000 in
set_option maxRecDepth 100000 in
theorem c_X11_sound (l : Launch) (D : va_G) (cA : Nat → ClassId) (ad : Nat → Nat) (M : Mm) (x1 : Int32) {r : Int64} (hr : f_X11_sound x1 M = some r) : Met l yX11_sound wsX11_sound ({ frames := 2, cells := 0, slots := 0, locals := 43 }) (PcX D false cA ad M [.ref (ad 0), .int x1]) (QlX false D false cA ad r M) 0 0 (AX false ad) := by
  refine Met.ofW (cc := cX11_sound) (maxL := 6) (ret := (some .long)) (by decide) rfl ?_
  intro p e s m args below meth c s₁ B hml hv
  obtain ⟨hav, hP0, hK⟩ := hv
  have hx := B.exec
  have hb := B.bytes
  have hr0 := B.returns
  have hts := atoms_spec (ws := wsX11_sound) B.pre
  have hown : s.vm.findClass RX11 = some m.cls := findClass_of_methodNamed B.named
  have hlocks := B.notSynchronized
  have hW := xstart hP0
  have hl := lv_entry ([.ref (ad 0), .int x1]) (n := 6) (Nat.le_of_ble_eq_true rfl)
  have hef := lg_entry_eq m ([.ref (ad 0), .int x1]) 6
  rw [← hav] at hef
  rw [hef]
  clear hef
  generalize (lg_sl ([.ref (ad 0), .int x1]) ++ List.replicate (6 - (lg_sl ([.ref (ad 0), .int x1])).length) Slot.unset).toArray = ls at hl ⊢
  have hl : lv_has ls 6 [(0, .ref (ad 0)), (1, .int x1)] := hl
  clear hP0
  unfold f_X11_sound at hr
  refine lv_aload_n hx hb dX11_sound_0 rfl (lv_at hl 0 rfl) ?_
  refine lv_iload_n hx hb dX11_sound_1 rfl (lv_at hl 1 rfl) ?_
  obtain ⟨r_1, hc2, hr⟩ := ob1_e hr
  refine xk_i (va_runV (As := [.int x1]) (rest := []) ⟨hx, hb, hml, hown, hts⟩ (c_X11_isPath l D cA ad M x1 hc2) (cwV 1 hts gX11_sound_X11_isPath rfl rfl rfl (by decide +kernel) ⟨Nat.le_of_ble_eq_true rfl, Nat.le_of_ble_eq_true rfl⟩) (xpreV hK hW (k := 0) rfl (by decide) rfl) rfl rfl hl.1 rfl (lv_room (Nat.le_of_ble_eq_true rfl)) dX11_sound_2 ⟨Nat.le_of_ble_eq_true rfl, Nat.le_of_ble_eq_true rfl⟩) hW (fun H locs hW => ?_)
  refine lv_if_ne (tgt := 12) hx hb dX11_sound_5 (by decide) (fun c1 => ?_) (fun c1 => ?_)
  · have hr := br_n c1 hr
    refine lv_aload_n hx hb dX11_sound_12 rfl (lv_at hl 0 rfl) ?_
    refine lv_iload_n hx hb dX11_sound_13 rfl (lv_at hl 1 rfl) ?_
    refine lv_iconst (v := (5 : Int32)) hx hb dX11_sound_14 (by decide) ?_
    obtain ⟨r_2, hc15, hr⟩ := ob1_e hr
    refine xk_i (va_runV (As := [.int x1, .int (5 : Int32)]) (rest := []) ⟨hx, hb, hml, hown, hts⟩ (c_X11_of l D cA ad M x1 (5 : Int32) hc15) (cwV 2 hts gX11_sound_X11_of rfl rfl rfl (by decide +kernel) ⟨Nat.le_of_ble_eq_true rfl, Nat.le_of_ble_eq_true rfl⟩) (xpreV hK hW (k := 0) rfl (by decide) rfl) rfl rfl hl.1 rfl (lv_room (Nat.le_of_ble_eq_true rfl)) dX11_sound_15 ⟨Nat.le_of_ble_eq_true rfl, Nat.le_of_ble_eq_true rfl⟩) hW (fun H locs hW => ?_)
    refine lv_ldc (v := (-2000000005 : Int32)) hx hb hown (hts _ (wm 2 rfl)) dX11_sound_18 ?_
    refine lv_icmp_ne (tgt := 27) hx hb dX11_sound_20 (by decide) (fun c1 => ?_) (fun c1 => ?_)
    · have hr := br_n c1 hr
      refine lv_aload_n hx hb dX11_sound_27 rfl (lv_at hl 0 rfl) ?_
      refine lv_iload_n hx hb dX11_sound_28 rfl (lv_at hl 1 rfl) ?_
      refine lv_iconst (v := (5 : Int32)) hx hb dX11_sound_29 (by decide) ?_
      obtain ⟨r_3, hc30, hr⟩ := ob1_e hr
      refine xk_i (va_runV (As := [.int x1, .int (5 : Int32)]) (rest := []) ⟨hx, hb, hml, hown, hts⟩ (c_X11_of l D cA ad M x1 (5 : Int32) hc30) (cwV 2 hts gX11_sound_X11_of rfl rfl rfl (by decide +kernel) ⟨Nat.le_of_ble_eq_true rfl, Nat.le_of_ble_eq_true rfl⟩) (xpreV hK hW (k := 0) rfl (by decide) rfl) rfl rfl hl.1 rfl (lv_room (Nat.le_of_ble_eq_true rfl)) dX11_sound_30 ⟨Nat.le_of_ble_eq_true rfl, Nat.le_of_ble_eq_true rfl⟩) hW (fun H locs hW => ?_)
      refine lv_aload_n hx hb dX11_sound_33 rfl (lv_at hl 0 rfl) ?_
      refine lv_iload_n hx hb dX11_sound_34 rfl (lv_at hl 1 rfl) ?_
      refine lv_iconst (v := (4 : Int32)) hx hb dX11_sound_35 (by decide) ?_
      obtain ⟨r_4, hc36, hr⟩ := ob1_e hr
      refine xk_i (va_runV (As := [.int x1, .int (4 : Int32)]) (rest := [.int r_3]) ⟨hx, hb, hml, hown, hts⟩ (c_X11_of l D cA ad M x1 (4 : Int32) hc36) (cwV 2 hts gX11_sound_X11_of rfl rfl rfl (by decide +kernel) ⟨Nat.le_of_ble_eq_true rfl, Nat.le_of_ble_eq_true rfl⟩) (xpreV hK hW (k := 0) rfl (by decide) rfl) rfl rfl hl.1 rfl (lv_room (Nat.le_of_ble_eq_true rfl)) dX11_sound_36 ⟨Nat.le_of_ble_eq_true rfl, Nat.le_of_ble_eq_true rfl⟩) hW (fun H locs hW => ?_)
      refine lv_isub hx hb dX11_sound_39 ?_
      refine lv_i2l hx hb dX11_sound_40 rfl ?_
      obtain ⟨x2_5, ex2_5, hr⟩ := lt1_e hr
      rw [← ex2_5]
      refine lv_lstore_n (lv' := [(2, .long x2_5), (0, .ref (ad 0)), (1, .int x1)]) hx hb dX11_sound_41 rfl hl (by decide) rfl (fun ls hl => ?_)
      refine lv_aload_n hx hb dX11_sound_42 rfl (lv_at hl 1 rfl) ?_
      refine lv_iload_n hx hb dX11_sound_43 rfl (lv_at hl 2 rfl) ?_
      refine lv_bipush (v := (6 : Int32)) hx hb dX11_sound_44 (by decide) ?_
      obtain ⟨r_6, hc46, hr⟩ := ob1_e hr
      refine xk_i (va_runV (As := [.int x1, .int (6 : Int32)]) (rest := []) ⟨hx, hb, hml, hown, hts⟩ (c_X11_of l D cA ad M x1 (6 : Int32) hc46) (cwV 2 hts gX11_sound_X11_of rfl rfl rfl (by decide +kernel) ⟨Nat.le_of_ble_eq_true rfl, Nat.le_of_ble_eq_true rfl⟩) (xpreV hK hW (k := 0) rfl (by decide) rfl) rfl rfl hl.1 rfl (lv_room (Nat.le_of_ble_eq_true rfl)) dX11_sound_46 ⟨Nat.le_of_ble_eq_true rfl, Nat.le_of_ble_eq_true rfl⟩) hW (fun H locs hW => ?_)
      refine lv_aload_n hx hb dX11_sound_49 rfl (lv_at hl 1 rfl) ?_
      refine lv_iload_n hx hb dX11_sound_50 rfl (lv_at hl 2 rfl) ?_
      refine lv_iconst (v := (4 : Int32)) hx hb dX11_sound_51 (by decide) ?_
      obtain ⟨r_7, hc52, hr⟩ := ob1_e hr
      refine xk_i (va_runV (As := [.int x1, .int (4 : Int32)]) (rest := [.int r_6]) ⟨hx, hb, hml, hown, hts⟩ (c_X11_of l D cA ad M x1 (4 : Int32) hc52) (cwV 2 hts gX11_sound_X11_of rfl rfl rfl (by decide +kernel) ⟨Nat.le_of_ble_eq_true rfl, Nat.le_of_ble_eq_true rfl⟩) (xpreV hK hW (k := 0) rfl (by decide) rfl) rfl rfl hl.1 rfl (lv_room (Nat.le_of_ble_eq_true rfl)) dX11_sound_52 ⟨Nat.le_of_ble_eq_true rfl, Nat.le_of_ble_eq_true rfl⟩) hW (fun H locs hW => ?_)
      refine lv_isub hx hb dX11_sound_55 ?_
      refine lv_i2l hx hb dX11_sound_56 rfl ?_
      obtain ⟨x4_8, ex4_8, hr⟩ := lt1_e hr
      rw [← ex4_8]
      refine lv_lstore (lv' := [(4, .long x4_8), (2, .long x2_5), (0, .ref (ad 0)), (1, .int x1)]) hx hb dX11_sound_57 hl (by decide) rfl (fun ls hl => ?_)
      refine lv_aload_n hx hb dX11_sound_59 rfl (lv_at hl 2 rfl) ?_
      refine lv_iload_n hx hb dX11_sound_60 rfl (lv_at hl 3 rfl) ?_
      refine lv_iconst (v := (0 : Int32)) hx hb dX11_sound_61 (by decide) ?_
      obtain ⟨r_9, hc62, hr⟩ := ob1_e hr
      refine xk_i (va_runV (As := [.int x1, .int (0 : Int32)]) (rest := []) ⟨hx, hb, hml, hown, hts⟩ (c_X11_of l D cA ad M x1 (0 : Int32) hc62) (cwV 2 hts gX11_sound_X11_of rfl rfl rfl (by decide +kernel) ⟨Nat.le_of_ble_eq_true rfl, Nat.le_of_ble_eq_true rfl⟩) (xpreV hK hW (k := 0) rfl (by decide) rfl) rfl rfl hl.1 rfl (lv_room (Nat.le_of_ble_eq_true rfl)) dX11_sound_62 ⟨Nat.le_of_ble_eq_true rfl, Nat.le_of_ble_eq_true rfl⟩) hW (fun H locs hW => ?_)
      refine lv_i2l hx hb dX11_sound_65 rfl ?_
      refine lv_ldc2 (v := (500000 : Int64)) hx hb hown (hts _ (wm 4 rfl)) dX11_sound_66 ?_
      refine lv_lmul hx hb dX11_sound_69 ?_
      refine lv_lload_n hx hb dX11_sound_70 rfl (lv_at hl 1 rfl) ?_
      refine lv_lload hx hb dX11_sound_71 (lv_at hl 0 rfl) ?_
      refine lv_ladd hx hb dX11_sound_73 ?_
      refine lv_lmul hx hb dX11_sound_74 ?_
      refine lv_lload_n hx hb dX11_sound_75 rfl (lv_at hl 1 rfl) ?_
      refine lv_lload hx hb dX11_sound_76 (lv_at hl 0 rfl) ?_
      refine lv_lmul hx hb dX11_sound_78 ?_
      refine lv_ldc2 (v := (1000 : Int64)) hx hb hown (hts _ (wm 5 rfl)) dX11_sound_79 ?_
      refine lv_ldiv hx hb dX11_sound_82 (by decide) ?_
      obtain ⟨hc83, hr⟩ := chk_e hr
      refine lv_ldiv hx hb dX11_sound_83 (of_decide_eq_true hc83) ?_
      rw [← Option.some.inj hr]
      exact xlret hx hb hr0 hlocks hW adR_rf dX11_sound_84
    · have hr := br_p c1 hr
      refine lv_ldc2 (v := (-2000000005 : Int64)) hx hb hown (hts _ (wm 3 rfl)) dX11_sound_23 ?_
      rw [← Option.some.inj hr]
      exact xlret hx hb hr0 hlocks hW adR_rf dX11_sound_26
  · have hr := br_p c1 hr
    refine lv_ldc2 (v := (-2000000001 : Int64)) hx hb hown (hts _ (wm 1 rfl)) dX11_sound_8 ?_
    rw [← Option.some.inj hr]
    exact xlret hx hb hr0 hlocks hW adR_rf dX11_sound_11

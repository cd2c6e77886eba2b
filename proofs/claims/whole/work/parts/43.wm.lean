set_option maxHeartbeats 4000000 in
set_option maxRecDepth 100000 in
theorem c_X11_closes (l : Launch) (D : va_G) (cA : Nat → ClassId) (ad : Nat → Nat) (M : Mm) {r : Int32} {M' : Mm} (hr : f_X11_closes M = some (r, M')) : Met l yX11_closes wsX11_closes ({ frames := 4, cells := 0, slots := 0, locals := 97 }) (PcX D false cA ad M [.ref (ad 0)]) (QiX false D false cA ad r M') 0 0 (AX false ad) := by
  refine Met.ofW (cc := cX11_closes) (maxL := 5) (ret := (some .int)) (by decide) rfl ?_
  intro p e s m args below meth c s₁ B hml hv
  obtain ⟨hav, hP0, hK⟩ := hv
  have hx := B.exec
  have hb := B.bytes
  have hr0 := B.returns
  have hts := atoms_spec (ws := wsX11_closes) B.pre
  have hown : s.vm.findClass RX11 = some m.cls := findClass_of_methodNamed B.named
  have hlocks := B.notSynchronized
  have hW := xstart hP0
  have hi11 : ∀ w ∈ wsX110, w ∈ wsX11_closes := fun w h => List.mem_cons_of_mem _ (List.mem_append_right _ h)
  have hl := lv_entry ([.ref (ad 0)]) (n := 5) (Nat.le_of_ble_eq_true rfl)
  have hef := lg_entry_eq m ([.ref (ad 0)]) 5
  rw [← hav] at hef
  rw [hef]
  clear hef
  generalize (lg_sl ([.ref (ad 0)]) ++ List.replicate (5 - (lg_sl ([.ref (ad 0)])).length) Slot.unset).toArray = ls at hl ⊢
  have hl : lv_has ls 5 [(0, .ref (ad 0))] := hl
  clear hP0
  unfold f_X11_closes at hr
  refine lv_aload_n hx hb dX11_closes_0 rfl (lv_at hl 0 rfl) ?_
  refine lv_aload_n hx hb dX11_closes_1 rfl (lv_at hl 0 rfl) ?_
  refine g11_0 hx hb hts hi11 hown hK hW (k := 0) rfl (hts _ (wm 1 rfl)) dX11_closes_2 ?_
  refine lv_bipush (v := (79 : Int32)) hx hb dX11_closes_5 (by decide) ?_
  refine xiald hx hb hK hW (k := 1) (t := 24) rfl (by decide) (by decide) rfl (n := 159) (by decide) (jx := 79) (by decide) dX11_closes_7 ?_
  obtain ⟨r_2, M_1, hc8, hr⟩ := ob2_e hr
  refine xk_i (va_runV (As := [.int (gI M 1 79)]) (rest := []) ⟨hx, hb, hml, hown, hts⟩ (c_X11_worksOut l D cA ad M (gI M 1 79) hc8) (cwV 1 hts gX11_closes_X11_worksOut rfl rfl rfl (by decide +kernel) ⟨Nat.le_of_ble_eq_true rfl, Nat.le_of_ble_eq_true rfl⟩) (xpreV hK hW (k := 0) rfl (by decide) rfl) rfl rfl hl.1 rfl (lv_room (Nat.le_of_ble_eq_true rfl)) dX11_closes_8 ⟨Nat.le_of_ble_eq_true rfl, Nat.le_of_ble_eq_true rfl⟩) hW (fun H locs hW => ?_)
  refine lv_istore_n (lv' := [(1, .int r_2), (0, .ref (ad 0))]) hx hb dX11_closes_11 rfl hl (by decide) rfl (fun ls hl => ?_)
  refine lv_iload_n hx hb dX11_closes_12 rfl (lv_at hl 0 rfl) ?_
  obtain ⟨y_3, hr, hr3⟩ := ob1_e hr
  have hj25_3 : ∀ (H : Heap) (locs : List Loc) (ls : Array Slot), Xw D false cA ad M_1 (AX false ad) s.heap H locs → lv_has ls 5 [(1, .int r_2), (0, .ref (ad 0))] → W p l e (headSpec wsX11_closes { frames := 4, cells := 0, slots := 0, locals := 97 }).room s m args below meth c H locs 0 0 (MQ below (QiX false D false cA ad r M') args s 0 0 (AX false ad)) (F0 m 25 ls [.int y_3]) := by
    intro H locs ls hW hl
    have hr := hr3
    refine lv_istore_n (lv' := [(2, .int y_3), (1, .int r_2), (0, .ref (ad 0))]) hx hb dX11_closes_25 rfl hl (by decide) rfl (fun ls hl => ?_)
    refine lv_iconst (v := (0 : Int32)) hx hb dX11_closes_26 (by decide) ?_
    refine lv_istore_n (lv' := [(3, .int (0 : Int32)), (2, .int y_3), (1, .int r_2), (0, .ref (ad 0))]) hx hb dX11_closes_27 rfl hl (by decide) rfl (fun ls hl => ?_)
    have hL28_1 : ∀ (n : Nat) (x3_5 : Int32) (M_6 : Mm) (H : Heap) (locs : List Loc) (ls : Array Slot) (M_7 : Mm), Xw D false cA ad M_6 (AX false ad) s.heap H locs → lv_has ls 5 [(2, .int y_3), (1, .int r_2), (0, .ref (ad 0)), (3, .int x3_5)] → f_X11_closes_L28 n x3_5 M_6 = some M_7 → (∀ (H : Heap) (locs : List Loc) (ls : Array Slot), Xw D false cA ad M_7 (AX false ad) s.heap H locs → lv_has ls 5 [(2, .int y_3), (1, .int r_2), (0, .ref (ad 0))] → W p l e (headSpec wsX11_closes { frames := 4, cells := 0, slots := 0, locals := 97 }).room s m args below meth c H locs 0 0 (MQ below (QiX false D false cA ad r M') args s 0 0 (AX false ad)) (F0 m 50 ls [])) → W p l e (headSpec wsX11_closes { frames := 4, cells := 0, slots := 0, locals := 97 }).room s m args below meth c H locs 0 0 (MQ below (QiX false D false cA ad r M') args s 0 0 (AX false ad)) (F0 m 28 ls []) := by
      intro n
      induction n with
      | zero =>
        intro x3_5 M_6 H locs ls M_7 hW hl hr hk
        exact absurd hr (by simp [f_X11_closes_L28])
      | succ n ih =>
        intro x3_5 M_6 H locs ls M_7 hW hl hr hk
        rw [f_X11_closes_L28] at hr
        refine lv_iload_n hx hb dX11_closes_28 rfl (lv_at hl 3 rfl) ?_
        refine lv_aload_n hx hb dX11_closes_29 rfl (lv_at hl 2 rfl) ?_
        refine g11_0 hx hb hts hi11 hown hK hW (k := 0) rfl (hts _ (wm 1 rfl)) dX11_closes_30 ?_
        refine lv_bipush (v := (64 : Int32)) hx hb dX11_closes_33 (by decide) ?_
        refine xiald hx hb hK hW (k := 1) (t := 24) rfl (by decide) (by decide) rfl (n := 159) (by decide) (jx := 64) (by decide) dX11_closes_35 ?_
        refine lv_icmp_ge (tgt := 50) hx hb dX11_closes_36 (by decide) (fun c1 => ?_) (fun c1 => ?_)
        · have hr := br_p c1 hr
          have e1 := Option.some.inj hr
          subst e1
          exact hk _ _ _ hW (lv_sub hl [0, 1, 2] rfl)
        · have hr := br_n c1 hr
          refine lv_aload_n hx hb dX11_closes_39 rfl (lv_at hl 2 rfl) ?_
          refine lv_iload_n hx hb dX11_closes_40 rfl (lv_at hl 3 rfl) ?_
          obtain ⟨M_8, hc41, hr⟩ := ob1_e hr
          refine xk_v (va_runV (As := [.int x3_5]) (rest := []) ⟨hx, hb, hml, hown, hts⟩ (c_X11_tells l D cA ad M_6 x3_5 hc41) (cwV 1 hts gX11_closes_X11_tells rfl rfl rfl (by decide +kernel) ⟨Nat.le_of_ble_eq_true rfl, Nat.le_of_ble_eq_true rfl⟩) (xpreV hK hW (k := 0) rfl (by decide) rfl) rfl rfl hl.1 rfl (lv_room (Nat.le_of_ble_eq_true rfl)) dX11_closes_41 ⟨Nat.le_of_ble_eq_true rfl, Nat.le_of_ble_eq_true rfl⟩) hW (fun H locs hW => ?_)
          obtain ⟨x3_9, ex3_9, hr⟩ := lt1_e hr
          refine lv_iinc (v := x3_9) (lv' := [(3, .int x3_9), (2, .int y_3), (1, .int r_2), (0, .ref (ad 0))]) hx hb dX11_closes_44 hl (k := 3) rfl (by rw [ex3_9]; rfl) (by decide) rfl (fun ls hl => ?_)
          refine lv_goto (tgt := 28) hx hb dX11_closes_47 (by decide) ?_
          exact ih x3_9 M_8 _ _ _ _ hW (lv_sub hl [1, 2, 3, 0] rfl) hr hk
    obtain ⟨M_7, hr, hr3⟩ := ob1_e hr
    refine hL28_1 1000 (0 : Int32) M_1 _ _ _ M_7 hW (lv_sub hl [1, 2, 3, 0] rfl) hr (fun H locs ls hW hl => ?_)
    clear hr
    have hr := hr3
    refine lv_iconst (v := (0 : Int32)) hx hb dX11_closes_50 (by decide) ?_
    refine lv_istore_n (lv' := [(3, .int (0 : Int32)), (2, .int y_3), (1, .int r_2), (0, .ref (ad 0))]) hx hb dX11_closes_51 rfl hl (by decide) rfl (fun ls hl => ?_)
    have hL52_2 : ∀ (n : Nat) (x3_10 : Int32) (M_11 : Mm) (H : Heap) (locs : List Loc) (ls : Array Slot) (M_12 : Mm), Xw D false cA ad M_11 (AX false ad) s.heap H locs → lv_has ls 5 [(2, .int y_3), (1, .int r_2), (0, .ref (ad 0)), (3, .int x3_10)] → f_X11_closes_L52 n x3_10 M_11 = some M_12 → (∀ (H : Heap) (locs : List Loc) (ls : Array Slot), Xw D false cA ad M_12 (AX false ad) s.heap H locs → lv_has ls 5 [(2, .int y_3), (1, .int r_2), (0, .ref (ad 0))] → W p l e (headSpec wsX11_closes { frames := 4, cells := 0, slots := 0, locals := 97 }).room s m args below meth c H locs 0 0 (MQ below (QiX false D false cA ad r M') args s 0 0 (AX false ad)) (F0 m 78 ls [])) → W p l e (headSpec wsX11_closes { frames := 4, cells := 0, slots := 0, locals := 97 }).room s m args below meth c H locs 0 0 (MQ below (QiX false D false cA ad r M') args s 0 0 (AX false ad)) (F0 m 52 ls []) := by
      intro n
      induction n with
      | zero =>
        intro x3_10 M_11 H locs ls M_12 hW hl hr hk
        exact absurd hr (by simp [f_X11_closes_L52])
      | succ n ih =>
        intro x3_10 M_11 H locs ls M_12 hW hl hr hk
        rw [f_X11_closes_L52] at hr
        refine lv_iload_n hx hb dX11_closes_52 rfl (lv_at hl 3 rfl) ?_
        refine lv_aload_n hx hb dX11_closes_53 rfl (lv_at hl 2 rfl) ?_
        refine g11_0 hx hb hts hi11 hown hK hW (k := 0) rfl (hts _ (wm 1 rfl)) dX11_closes_54 ?_
        refine lv_bipush (v := (64 : Int32)) hx hb dX11_closes_57 (by decide) ?_
        refine xiald hx hb hK hW (k := 1) (t := 24) rfl (by decide) (by decide) rfl (n := 159) (by decide) (jx := 64) (by decide) dX11_closes_59 ?_
        refine lv_icmp_ge (tgt := 78) hx hb dX11_closes_60 (by decide) (fun c1 => ?_) (fun c1 => ?_)
        · have hr := br_p c1 hr
          have e1 := Option.some.inj hr
          subst e1
          exact hk _ _ _ hW (lv_sub hl [0, 1, 2] rfl)
        · have hr := br_n c1 hr
          refine lv_aload_n hx hb dX11_closes_63 rfl (lv_at hl 2 rfl) ?_
          refine lv_iload_n hx hb dX11_closes_64 rfl (lv_at hl 3 rfl) ?_
          refine lv_bipush (v := (13 : Int32)) hx hb dX11_closes_65 (by decide) ?_
          refine lv_ldc (v := (-2000000005 : Int32)) hx hb hown (hts _ (wm 2 rfl)) dX11_closes_67 ?_
          obtain ⟨M_13, hc69, hr⟩ := ob1_e hr
          refine xk_v (va_runV (As := [.int x3_10, .int (13 : Int32), .int (-2000000005 : Int32)]) (rest := []) ⟨hx, hb, hml, hown, hts⟩ (c_X11_lay l D cA ad M_11 x3_10 (13 : Int32) (-2000000005 : Int32) hc69) (cwV 3 hts gX11_closes_X11_lay rfl rfl rfl (by decide +kernel) ⟨Nat.le_of_ble_eq_true rfl, Nat.le_of_ble_eq_true rfl⟩) (xpreV hK hW (k := 0) rfl (by decide) rfl) rfl rfl hl.1 rfl (lv_room (Nat.le_of_ble_eq_true rfl)) dX11_closes_69 ⟨Nat.le_of_ble_eq_true rfl, Nat.le_of_ble_eq_true rfl⟩) hW (fun H locs hW => ?_)
          obtain ⟨x3_14, ex3_14, hr⟩ := lt1_e hr
          refine lv_iinc (v := x3_14) (lv' := [(3, .int x3_14), (2, .int y_3), (1, .int r_2), (0, .ref (ad 0))]) hx hb dX11_closes_72 hl (k := 3) rfl (by rw [ex3_14]; rfl) (by decide) rfl (fun ls hl => ?_)
          refine lv_goto (tgt := 52) hx hb dX11_closes_75 (by decide) ?_
          exact ih x3_14 M_13 _ _ _ _ hW (lv_sub hl [1, 2, 3, 0] rfl) hr hk
    obtain ⟨M_12, hr, hr3⟩ := ob1_e hr
    refine hL52_2 1000 (0 : Int32) M_7 _ _ _ M_12 hW (lv_sub hl [1, 2, 3, 0] rfl) hr (fun H locs ls hW hl => ?_)
    clear hr
    have hr := hr3
    refine lv_aload_n hx hb dX11_closes_78 rfl (lv_at hl 2 rfl) ?_
    refine lv_iload_n hx hb dX11_closes_79 rfl (lv_at hl 1 rfl) ?_
    refine lv_iload_n hx hb dX11_closes_80 rfl (lv_at hl 0 rfl) ?_
    obtain ⟨M_15, hc81, hr⟩ := ob1_e hr
    refine xk_v (va_runV (As := [.int r_2, .int y_3]) (rest := []) ⟨hx, hb, hml, hown, hts⟩ (c_X11_keeps l D cA ad M_12 r_2 y_3 hc81) (cwV 2 hts gX11_closes_X11_keeps rfl rfl rfl (by decide +kernel) ⟨Nat.le_of_ble_eq_true rfl, Nat.le_of_ble_eq_true rfl⟩) (xpreV hK hW (k := 0) rfl (by decide) rfl) rfl rfl hl.1 rfl (lv_room (Nat.le_of_ble_eq_true rfl)) dX11_closes_81 ⟨Nat.le_of_ble_eq_true rfl, Nat.le_of_ble_eq_true rfl⟩) hW (fun H locs hW => ?_)
    refine lv_aload_n hx hb dX11_closes_84 rfl (lv_at hl 2 rfl) ?_
    refine g11_0 hx hb hts hi11 hown hK hW (k := 0) rfl (hts _ (wm 1 rfl)) dX11_closes_85 ?_
    refine lv_bipush (v := (84 : Int32)) hx hb dX11_closes_88 (by decide) ?_
    refine lv_dup2_11 hx hb dX11_closes_90 rfl rfl ?_
    refine xiald hx hb hK hW (k := 1) (t := 24) rfl (by decide) (by decide) rfl (n := 159) (by decide) (jx := 84) (by decide) dX11_closes_91 ?_
    refine lv_iconst (v := (1 : Int32)) hx hb dX11_closes_92 (by decide) ?_
    refine lv_iadd hx hb dX11_closes_93 ?_
    obtain ⟨M_16, eM_16, hr⟩ := lt1_e hr
    refine xiast hx hb hK hW (k := 1) (t := 24) rfl (by decide) (by decide) rfl (n := 159) (by decide) (jx := 84) (by decide) dX11_closes_94 (fun H locs hW => ?_)
    rw [← eM_16] at hW
    refine lv_aload_n hx hb dX11_closes_95 rfl (lv_at hl 2 rfl) ?_
    refine g11_0 hx hb hts hi11 hown hK hW (k := 0) rfl (hts _ (wm 1 rfl)) dX11_closes_96 ?_
    refine lv_bipush (v := (85 : Int32)) hx hb dX11_closes_99 (by decide) ?_
    refine lv_dup2_11 hx hb dX11_closes_101 rfl rfl ?_
    refine xiald hx hb hK hW (k := 1) (t := 24) rfl (by decide) (by decide) rfl (n := 159) (by decide) (jx := 85) (by decide) dX11_closes_102 ?_
    refine lv_iload_n hx hb dX11_closes_103 rfl (lv_at hl 1 rfl) ?_
    obtain ⟨y_17, hr, hr3⟩ := ob1_e hr
    have hj112_17 : ∀ (H : Heap) (locs : List Loc) (ls : Array Slot), Xw D false cA ad M_16 (AX false ad) s.heap H locs → lv_has ls 5 [(2, .int y_3), (1, .int r_2), (0, .ref (ad 0))] → W p l e (headSpec wsX11_closes { frames := 4, cells := 0, slots := 0, locals := 97 }).room s m args below meth c H locs 0 0 (MQ below (QiX false D false cA ad r M') args s 0 0 (AX false ad)) (F0 m 112 ls [.int y_17, .int (gI M_16 1 85), .int (85 : Int32), .ref (ad 1)]) := by
      intro H locs ls hW hl
      have hr := hr3
      refine lv_iadd hx hb dX11_closes_112 ?_
      obtain ⟨M_18, eM_18, hr⟩ := lt1_e hr
      refine xiast hx hb hK hW (k := 1) (t := 24) rfl (by decide) (by decide) rfl (n := 159) (by decide) (jx := 85) (by decide) dX11_closes_113 (fun H locs hW => ?_)
      rw [← eM_18] at hW
      refine lv_iload_n hx hb dX11_closes_114 rfl (lv_at hl 1 rfl) ?_
      obtain ⟨M_19, hr, hr3⟩ := ob1_e hr
      have hj184_19 : ∀ (H : Heap) (locs : List Loc) (ls : Array Slot), Xw D false cA ad M_19 (AX false ad) s.heap H locs → lv_has ls 5 [(2, .int y_3)] → W p l e (headSpec wsX11_closes { frames := 4, cells := 0, slots := 0, locals := 97 }).room s m args below meth c H locs 0 0 (MQ below (QiX false D false cA ad r M') args s 0 0 (AX false ad)) (F0 m 184 ls []) := by
        intro H locs ls hW hl
        have hr := hr3
        refine lv_iload_n hx hb dX11_closes_184 rfl (lv_at hl 0 rfl) ?_
        obtain ⟨e1, e2⟩ := Prod.mk.inj (Option.some.inj hr)
        rw [← e1, ← e2]
        exact xiret hx hb hr0 hlocks hW adR_rf dX11_closes_185
      clear hr3
      refine lv_if_eq (tgt := 184) hx hb dX11_closes_115 (by decide) (fun c1 => ?_) (fun c1 => ?_)
      · have hr := br_p c1 hr
        have e1 := Option.some.inj hr
        subst e1
        exact hj184_19 _ _ _ hW (lv_sub hl [0] rfl)
      · have hr := br_n c1 hr
        refine lv_iload_n hx hb dX11_closes_118 rfl (lv_at hl 0 rfl) ?_
        refine lv_i2l hx hb dX11_closes_119 rfl ?_
        refine lv_aload_n hx hb dX11_closes_120 rfl (lv_at hl 2 rfl) ?_
        refine g11_0 hx hb hts hi11 hown hK hW (k := 0) rfl (hts _ (wm 1 rfl)) dX11_closes_121 ?_
        refine lv_bipush (v := (81 : Int32)) hx hb dX11_closes_124 (by decide) ?_
        refine xiald hx hb hK hW (k := 1) (t := 24) rfl (by decide) (by decide) rfl (n := 159) (by decide) (jx := 81) (by decide) dX11_closes_126 ?_
        refine lv_i2l hx hb dX11_closes_127 rfl ?_
        refine lv_lmul hx hb dX11_closes_128 ?_
        refine lv_aload_n hx hb dX11_closes_129 rfl (lv_at hl 2 rfl) ?_
        refine g11_0 hx hb hts hi11 hown hK hW (k := 0) rfl (hts _ (wm 1 rfl)) dX11_closes_130 ?_
        refine lv_bipush (v := (82 : Int32)) hx hb dX11_closes_133 (by decide) ?_
        refine xiald hx hb hK hW (k := 1) (t := 24) rfl (by decide) (by decide) rfl (n := 159) (by decide) (jx := 82) (by decide) dX11_closes_135 ?_
        refine lv_i2l hx hb dX11_closes_136 rfl ?_
        refine lv_lmul hx hb dX11_closes_137 ?_
        refine lv_ldc2 (v := (1000 : Int64)) hx hb hown (hts _ (wm 3 rfl)) dX11_closes_138 ?_
        refine lv_ldiv hx hb dX11_closes_141 (by decide) ?_
        obtain ⟨x3_20, ex3_20, hr⟩ := lt1_e hr
        rw [← ex3_20]
        refine lv_lstore_n (lv' := [(3, .long x3_20), (2, .int y_3), (1, .int r_2), (0, .ref (ad 0))]) hx hb dX11_closes_142 rfl hl (by decide) rfl (fun ls hl => ?_)
        refine lv_aload_n hx hb dX11_closes_143 rfl (lv_at hl 3 rfl) ?_
        refine g11_1 hx hb hts hi11 hown hK hW (k := 0) rfl (hts _ (wm 4 rfl)) dX11_closes_144 ?_
        refine lv_iconst (v := (0 : Int32)) hx hb dX11_closes_147 (by decide) ?_
        refine lv_dup2_11 hx hb dX11_closes_148 rfl rfl ?_
        refine xlald hx hb hK hW (k := 2) (t := 40) rfl (by decide) (by decide) rfl (n := 2) (by decide) (jx := 0) (by decide) dX11_closes_149 ?_
        refine lv_lload_n hx hb dX11_closes_150 rfl (lv_at hl 0 rfl) ?_
        refine lv_lconst (v := (0 : Int64)) hx hb dX11_closes_151 (by decide) ?_
        obtain ⟨y_21, hr, hr3⟩ := ob1_e hr
        have hj161_21 : ∀ (H : Heap) (locs : List Loc) (ls : Array Slot), Xw D false cA ad M_18 (AX false ad) s.heap H locs → lv_has ls 5 [(3, .long x3_20), (2, .int y_3), (0, .ref (ad 0))] → W p l e (headSpec wsX11_closes { frames := 4, cells := 0, slots := 0, locals := 97 }).room s m args below meth c H locs 0 0 (MQ below (QiX false D false cA ad r M') args s 0 0 (AX false ad)) (F0 m 161 ls [.long y_21, .long (gJ M_18 2 0), .int (0 : Int32), .ref (ad 2)]) := by
          intro H locs ls hW hl
          have hr := hr3
          refine lv_ladd hx hb dX11_closes_161 ?_
          obtain ⟨M_22, eM_22, hr⟩ := lt1_e hr
          refine xlast hx hb hK hW (k := 2) (t := 40) rfl (by decide) (by decide) rfl (n := 2) (by decide) (jx := 0) (by decide) dX11_closes_162 (fun H locs hW => ?_)
          rw [← eM_22] at hW
          refine lv_aload_n hx hb dX11_closes_163 rfl (lv_at hl 2 rfl) ?_
          refine g11_1 hx hb hts hi11 hown hK hW (k := 0) rfl (hts _ (wm 4 rfl)) dX11_closes_164 ?_
          refine lv_iconst (v := (1 : Int32)) hx hb dX11_closes_167 (by decide) ?_
          refine lv_dup2_11 hx hb dX11_closes_168 rfl rfl ?_
          refine xlald hx hb hK hW (k := 2) (t := 40) rfl (by decide) (by decide) rfl (n := 2) (by decide) (jx := 1) (by decide) dX11_closes_169 ?_
          refine lv_lload_n hx hb dX11_closes_170 rfl (lv_at hl 0 rfl) ?_
          refine lv_lconst (v := (0 : Int64)) hx hb dX11_closes_171 (by decide) ?_
          obtain ⟨y_23, hr, hr3⟩ := ob1_e hr
          have hj182_23 : ∀ (H : Heap) (locs : List Loc) (ls : Array Slot), Xw D false cA ad M_22 (AX false ad) s.heap H locs → lv_has ls 5 [(2, .int y_3)] → W p l e (headSpec wsX11_closes { frames := 4, cells := 0, slots := 0, locals := 97 }).room s m args below meth c H locs 0 0 (MQ below (QiX false D false cA ad r M') args s 0 0 (AX false ad)) (F0 m 182 ls [.long y_23, .long (gJ M_22 2 1), .int (1 : Int32), .ref (ad 2)]) := by
            intro H locs ls hW hl
            have hr := hr3
            refine lv_ladd hx hb dX11_closes_182 ?_
            obtain ⟨M_24, eM_24, hr⟩ := lt1_e hr
            refine xlast hx hb hK hW (k := 2) (t := 40) rfl (by decide) (by decide) rfl (n := 2) (by decide) (jx := 1) (by decide) dX11_closes_183 (fun H locs hW => ?_)
            rw [← eM_24] at hW
            have e1 := Option.some.inj hr
            subst e1
            exact hj184_19 _ _ _ hW (lv_sub hl [0] rfl)
          clear hr3
          refine xlc_ge (tgt := 181) hx hb dX11_closes_172 dX11_closes_173 (by decide) (fun c1 => ?_) (fun c1 => ?_)
          · have hr := br_p c1 hr
            refine lv_lconst (v := (0 : Int64)) hx hb dX11_closes_181 (by decide) ?_
            have e1 := Option.some.inj hr
            subst e1
            exact hj182_23 _ _ _ hW (lv_sub hl [1] rfl)
          · have hr := br_n c1 hr
            refine lv_lload_n hx hb dX11_closes_176 rfl (lv_at hl 0 rfl) ?_
            refine lv_lneg hx hb dX11_closes_177 ?_
            refine lv_goto (tgt := 182) hx hb dX11_closes_178 (by decide) ?_
            have e1 := Option.some.inj hr
            subst e1
            exact hj182_23 _ _ _ hW (lv_sub hl [1] rfl)
        clear hr3
        refine xlc_le (tgt := 160) hx hb dX11_closes_152 dX11_closes_153 (by decide) (fun c1 => ?_) (fun c1 => ?_)
        · have hr := br_p c1 hr
          refine lv_lconst (v := (0 : Int64)) hx hb dX11_closes_160 (by decide) ?_
          have e1 := Option.some.inj hr
          subst e1
          exact hj161_21 _ _ _ hW (lv_sub hl [0, 1, 3] rfl)
        · have hr := br_n c1 hr
          refine lv_lload_n hx hb dX11_closes_156 rfl (lv_at hl 0 rfl) ?_
          refine lv_goto (tgt := 161) hx hb dX11_closes_157 (by decide) ?_
          have e1 := Option.some.inj hr
          subst e1
          exact hj161_21 _ _ _ hW (lv_sub hl [0, 1, 3] rfl)
    clear hr3
    refine lv_if_eq (tgt := 111) hx hb dX11_closes_104 (by decide) (fun c1 => ?_) (fun c1 => ?_)
    · have hr := br_p c1 hr
      refine lv_iconst (v := (1 : Int32)) hx hb dX11_closes_111 (by decide) ?_
      have e1 := Option.some.inj hr
      subst e1
      exact hj112_17 _ _ _ hW (lv_sub hl [0, 1, 2] rfl)
    · have hr := br_n c1 hr
      refine lv_iconst (v := (0 : Int32)) hx hb dX11_closes_107 (by decide) ?_
      refine lv_goto (tgt := 112) hx hb dX11_closes_108 (by decide) ?_
      have e1 := Option.some.inj hr
      subst e1
      exact hj112_17 _ _ _ hW (lv_sub hl [0, 1, 2] rfl)
  clear hr3
  refine lv_if_eq (tgt := 23) hx hb dX11_closes_13 (by decide) (fun c1 => ?_) (fun c1 => ?_)
  · have hr := br_p c1 hr
    refine lv_ldc (v := (-2000000005 : Int32)) hx hb hown (hts _ (wm 2 rfl)) dX11_closes_23 ?_
    have e1 := Option.some.inj hr
    subst e1
    exact hj25_3 _ _ _ hW (lv_sub hl [0, 1] rfl)
  · have hr := br_n c1 hr
    refine lv_aload_n hx hb dX11_closes_16 rfl (lv_at hl 1 rfl) ?_
    obtain ⟨r_4, hc17, hr⟩ := ob1_e hr
    refine xk_i (va_runV (As := []) (rest := []) ⟨hx, hb, hml, hown, hts⟩ (c_X11_roundVelocity l D cA ad M_1 hc17) (cwV 0 hts gX11_closes_X11_roundVelocity rfl rfl rfl (by decide +kernel) ⟨Nat.le_of_ble_eq_true rfl, Nat.le_of_ble_eq_true rfl⟩) (xpreV hK hW (k := 0) rfl (by decide) rfl) rfl rfl hl.1 rfl (lv_room (Nat.le_of_ble_eq_true rfl)) dX11_closes_17 ⟨Nat.le_of_ble_eq_true rfl, Nat.le_of_ble_eq_true rfl⟩) hW (fun H locs hW => ?_)
    refine lv_goto (tgt := 25) hx hb dX11_closes_20 (by decide) ?_
    have e1 := Option.some.inj hr
    subst e1
    exact hj25_3 _ _ _ hW (lv_sub hl [0, 1] rfl)

set_option maxHeartbeats 4000000 in
set_option maxRecDepth 100000 in
theorem c_X11_close (l : Launch) (D : va_G) (cA : Nat → ClassId) (ad : Nat → Nat) (M : Mm) {r : Int32} {M' : Mm} (hr : f_X11_close M = some (r, M')) : Met l yX11_close wsX11_close ({ frames := 5, cells := 0, slots := 0, locals := 121 }) (PcX D false cA ad M [.ref (ad 0)]) (QiX false D false cA ad r M') 0 0 (AX false ad) := by
  refine Met.ofW (cc := cX11_close) (maxL := 1) (ret := (some .int)) (by decide) rfl ?_
  intro p e s m args below meth c s₁ B hml hv
  obtain ⟨hav, hP0, hK⟩ := hv
  have hx := B.exec
  have hb := B.bytes
  have hr0 := B.returns
  have hts := atoms_spec (ws := wsX11_close) B.pre
  have hown : s.vm.findClass RX11 = some m.cls := findClass_of_methodNamed B.named
  have hlocks := B.notSynchronized
  have hW := xstart hP0
  have hi11 : ∀ w ∈ wsX110, w ∈ wsX11_close := fun w h => List.mem_cons_of_mem _ (List.mem_append_right _ h)
  have hl := lv_entry ([.ref (ad 0)]) (n := 1) (Nat.le_of_ble_eq_true rfl)
  have hef := lg_entry_eq m ([.ref (ad 0)]) 1
  rw [← hav] at hef
  rw [hef]
  clear hef
  generalize (lg_sl ([.ref (ad 0)]) ++ List.replicate (1 - (lg_sl ([.ref (ad 0)])).length) Slot.unset).toArray = ls at hl ⊢
  have hl : lv_has ls 1 [(0, .ref (ad 0))] := hl
  clear hP0
  unfold f_X11_close at hr
  refine lv_aload_n hx hb dX11_close_0 rfl (lv_at hl 0 rfl) ?_
  refine g11_0 hx hb hts hi11 hown hK hW (k := 0) rfl (hts _ (wm 1 rfl)) dX11_close_1 ?_
  refine lv_bipush (v := (64 : Int32)) hx hb dX11_close_4 (by decide) ?_
  refine xiald hx hb hK hW (k := 1) (t := 24) rfl (by decide) (by decide) rfl (n := 159) (by decide) (jx := 64) (by decide) dX11_close_6 ?_
  refine lv_if_ne (tgt := 13) hx hb dX11_close_7 (by decide) (fun c1 => ?_) (fun c1 => ?_)
  · have hr := br_n c1 hr
    refine lv_aload_n hx hb dX11_close_13 rfl (lv_at hl 0 rfl) ?_
    obtain ⟨M_1, hc14, hr⟩ := ob1_e hr
    refine xk_v (va_runV (As := []) (rest := []) ⟨hx, hb, hml, hown, hts⟩ (c_X11_records l D cA ad M hc14) (cwV 0 hts gX11_close_X11_records rfl rfl rfl (by decide +kernel) ⟨Nat.le_of_ble_eq_true rfl, Nat.le_of_ble_eq_true rfl⟩) (xpreV hK hW (k := 0) rfl (by decide) rfl) rfl rfl hl.1 rfl (lv_room (Nat.le_of_ble_eq_true rfl)) dX11_close_14 ⟨Nat.le_of_ble_eq_true rfl, Nat.le_of_ble_eq_true rfl⟩) hW (fun H locs hW => ?_)
    refine lv_aload_n hx hb dX11_close_17 rfl (lv_at hl 0 rfl) ?_
    obtain ⟨r_3, M_2, hc18, hr⟩ := ob2_e hr
    refine xk_i (va_runV (As := []) (rest := []) ⟨hx, hb, hml, hown, hts⟩ (c_X11_closes l D cA ad M_1 hc18) (cwV 0 hts gX11_close_X11_closes rfl rfl rfl (by decide +kernel) ⟨Nat.le_of_ble_eq_true rfl, Nat.le_of_ble_eq_true rfl⟩) (xpreV hK hW (k := 0) rfl (by decide) rfl) rfl rfl hl.1 rfl (lv_room (Nat.le_of_ble_eq_true rfl)) dX11_close_18 ⟨Nat.le_of_ble_eq_true rfl, Nat.le_of_ble_eq_true rfl⟩) hW (fun H locs hW => ?_)
    obtain ⟨e1, e2⟩ := Prod.mk.inj (Option.some.inj hr)
    rw [← e1, ← e2]
    exact xiret hx hb hr0 hlocks hW adR_rf dX11_close_21
  · have hr := br_p c1 hr
    refine lv_ldc (v := (-2000000003 : Int32)) hx hb hown (hts _ (wm 2 rfl)) dX11_close_10 ?_
    obtain ⟨e1, e2⟩ := Prod.mk.inj (Option.some.inj hr)
    rw [← e1, ← e2]
    exact xiret hx hb hr0 hlocks hW adR_rf dX11_close_12

set_option maxHeartbeats 4000000 in
set_option maxRecDepth 100000 in
theorem c_X11_exchanges (l : Launch) (D : va_G) (cA : Nat → ClassId) (ad : Nat → Nat) (M : Mm) (x1 : Int32) (x2 : Int32) {M' : Mm} (hr : f_X11_exchanges x1 x2 M = some M') : Met l yX11_exchanges wsX11_exchanges ({ frames := 1, cells := 0, slots := 0, locals := 23 }) (PcX D false cA ad M [.ref (ad 0), .int x1, .int x2]) (QvX false D false cA ad M') 0 0 (AX false ad) := by
  refine Met.ofW (cc := cX11_exchanges) (maxL := 4) (ret := none) (by decide) rfl ?_
  intro p e s m args below meth c s₁ B hml hv
  obtain ⟨hav, hP0, hK⟩ := hv
  have hx := B.exec
  have hb := B.bytes
  have hr0 := B.returns
  have hts := atoms_spec (ws := wsX11_exchanges) B.pre
  have hown : s.vm.findClass RX11 = some m.cls := findClass_of_methodNamed B.named
  have hlocks := B.notSynchronized
  have hW := xstart hP0
  have hl := lv_entry ([.ref (ad 0), .int x1, .int x2]) (n := 4) (Nat.le_of_ble_eq_true rfl)
  have hef := lg_entry_eq m ([.ref (ad 0), .int x1, .int x2]) 4
  rw [← hav] at hef
  rw [hef]
  clear hef
  generalize (lg_sl ([.ref (ad 0), .int x1, .int x2]) ++ List.replicate (4 - (lg_sl ([.ref (ad 0), .int x1, .int x2])).length) Slot.unset).toArray = ls at hl ⊢
  have hl : lv_has ls 4 [(0, .ref (ad 0)), (1, .int x1), (2, .int x2)] := hl
  clear hP0
  unfold f_X11_exchanges at hr
  refine lv_aload_n hx hb dX11_exchanges_0 rfl (lv_at hl 0 rfl) ?_
  refine lv_iload_n hx hb dX11_exchanges_1 rfl (lv_at hl 1 rfl) ?_
  refine lv_iload_n hx hb dX11_exchanges_2 rfl (lv_at hl 2 rfl) ?_
  obtain ⟨r_1, hc3, hr⟩ := ob1_e hr
  refine xk_i (va_runV (As := [.int x1, .int x2]) (rest := []) ⟨hx, hb, hml, hown, hts⟩ (c_X11_of l D cA ad M x1 x2 hc3) (cwV 2 hts gX11_exchanges_X11_of rfl rfl rfl (by decide +kernel) ⟨Nat.le_of_ble_eq_true rfl, Nat.le_of_ble_eq_true rfl⟩) (xpreV hK hW (k := 0) rfl (by decide) rfl) rfl rfl hl.1 rfl (lv_room (Nat.le_of_ble_eq_true rfl)) dX11_exchanges_3 ⟨Nat.le_of_ble_eq_true rfl, Nat.le_of_ble_eq_true rfl⟩) hW (fun H locs hW => ?_)
  refine lv_istore_n (lv' := [(3, .int r_1), (0, .ref (ad 0)), (1, .int x1), (2, .int x2)]) hx hb dX11_exchanges_6 rfl hl (by decide) rfl (fun ls hl => ?_)
  refine lv_aload_n hx hb dX11_exchanges_7 rfl (lv_at hl 1 rfl) ?_
  refine lv_iload_n hx hb dX11_exchanges_8 rfl (lv_at hl 2 rfl) ?_
  refine lv_iload_n hx hb dX11_exchanges_9 rfl (lv_at hl 3 rfl) ?_
  refine lv_aload_n hx hb dX11_exchanges_10 rfl (lv_at hl 1 rfl) ?_
  refine lv_iload_n hx hb dX11_exchanges_11 rfl (lv_at hl 2 rfl) ?_
  refine lv_iload_n hx hb dX11_exchanges_12 rfl (lv_at hl 3 rfl) ?_
  refine lv_iconst (v := (1 : Int32)) hx hb dX11_exchanges_13 (by decide) ?_
  refine lv_iadd hx hb dX11_exchanges_14 ?_
  obtain ⟨r_2, hc15, hr⟩ := ob1_e hr
  refine xk_i (va_runV (As := [.int x1, .int (x2 + (1 : Int32))]) (rest := [.int x2, .int x1, .ref (ad 0)]) ⟨hx, hb, hml, hown, hts⟩ (c_X11_of l D cA ad M x1 (x2 + (1 : Int32)) hc15) (cwV 2 hts gX11_exchanges_X11_of rfl rfl rfl (by decide +kernel) ⟨Nat.le_of_ble_eq_true rfl, Nat.le_of_ble_eq_true rfl⟩) (xpreV hK hW (k := 0) rfl (by decide) rfl) rfl rfl hl.1 rfl (lv_room (Nat.le_of_ble_eq_true rfl)) dX11_exchanges_15 ⟨Nat.le_of_ble_eq_true rfl, Nat.le_of_ble_eq_true rfl⟩) hW (fun H locs hW => ?_)
  obtain ⟨M_3, hc18, hr⟩ := ob1_e hr
  refine xk_v (va_runV (As := [.int x1, .int x2, .int r_2]) (rest := []) ⟨hx, hb, hml, hown, hts⟩ (c_X11_lay l D cA ad M x1 x2 r_2 hc18) (cwV 3 hts gX11_exchanges_X11_lay rfl rfl rfl (by decide +kernel) ⟨Nat.le_of_ble_eq_true rfl, Nat.le_of_ble_eq_true rfl⟩) (xpreV hK hW (k := 0) rfl (by decide) rfl) rfl rfl hl.1 rfl (lv_room (Nat.le_of_ble_eq_true rfl)) dX11_exchanges_18 ⟨Nat.le_of_ble_eq_true rfl, Nat.le_of_ble_eq_true rfl⟩) hW (fun H locs hW => ?_)
  refine lv_aload_n hx hb dX11_exchanges_21 rfl (lv_at hl 1 rfl) ?_
  refine lv_iload_n hx hb dX11_exchanges_22 rfl (lv_at hl 2 rfl) ?_
  refine lv_iload_n hx hb dX11_exchanges_23 rfl (lv_at hl 3 rfl) ?_
  refine lv_iconst (v := (1 : Int32)) hx hb dX11_exchanges_24 (by decide) ?_
  refine lv_iadd hx hb dX11_exchanges_25 ?_
  refine lv_iload_n hx hb dX11_exchanges_26 rfl (lv_at hl 0 rfl) ?_
  obtain ⟨M_4, hc27, hr⟩ := ob1_e hr
  refine xk_v (va_runV (As := [.int x1, .int (x2 + (1 : Int32)), .int r_1]) (rest := []) ⟨hx, hb, hml, hown, hts⟩ (c_X11_lay l D cA ad M_3 x1 (x2 + (1 : Int32)) r_1 hc27) (cwV 3 hts gX11_exchanges_X11_lay rfl rfl rfl (by decide +kernel) ⟨Nat.le_of_ble_eq_true rfl, Nat.le_of_ble_eq_true rfl⟩) (xpreV hK hW (k := 0) rfl (by decide) rfl) rfl rfl hl.1 rfl (lv_room (Nat.le_of_ble_eq_true rfl)) dX11_exchanges_27 ⟨Nat.le_of_ble_eq_true rfl, Nat.le_of_ble_eq_true rfl⟩) hW (fun H locs hW => ?_)
  rw [← Option.some.inj hr]
  exact xvret hx hb hr0 hlocks hW adR_rf dX11_exchanges_30

set_option maxHeartbeats 4000000 in
set_option maxRecDepth 100000 in
theorem c_X11_swaps (l : Launch) (D : va_G) (cA : Nat → ClassId) (ad : Nat → Nat) (M : Mm) {r : Int32} {M' : Mm} (hr : f_X11_swaps M = some (r, M')) : Met l yX11_swaps wsX11_swaps ({ frames := 2, cells := 0, slots := 0, locals := 46 }) (PcX D false cA ad M [.ref (ad 0)]) (QiX false D false cA ad r M') 0 0 (AX false ad) := by
  refine Met.ofW (cc := cX11_swaps) (maxL := 2) (ret := (some .int)) (by decide) rfl ?_
  intro p e s m args below meth c s₁ B hml hv
  obtain ⟨hav, hP0, hK⟩ := hv
  have hx := B.exec
  have hb := B.bytes
  have hr0 := B.returns
  have hts := atoms_spec (ws := wsX11_swaps) B.pre
  have hown : s.vm.findClass RX11 = some m.cls := findClass_of_methodNamed B.named
  have hlocks := B.notSynchronized
  have hW := xstart hP0
  have hi11 : ∀ w ∈ wsX110, w ∈ wsX11_swaps := fun w h => List.mem_cons_of_mem _ (List.mem_append_right _ h)
  have hl := lv_entry ([.ref (ad 0)]) (n := 2) (Nat.le_of_ble_eq_true rfl)
  have hef := lg_entry_eq m ([.ref (ad 0)]) 2
  rw [← hav] at hef
  rw [hef]
  clear hef
  generalize (lg_sl ([.ref (ad 0)]) ++ List.replicate (2 - (lg_sl ([.ref (ad 0)])).length) Slot.unset).toArray = ls at hl ⊢
  have hl : lv_has ls 2 [(0, .ref (ad 0))] := hl
  clear hP0
  unfold f_X11_swaps at hr
  refine lv_aload_n hx hb dX11_swaps_0 rfl (lv_at hl 0 rfl) ?_
  refine g11_0 hx hb hts hi11 hown hK hW (k := 0) rfl (hts _ (wm 1 rfl)) dX11_swaps_1 ?_
  refine lv_bipush (v := (83 : Int32)) hx hb dX11_swaps_4 (by decide) ?_
  refine lv_iconst (v := (1 : Int32)) hx hb dX11_swaps_6 (by decide) ?_
  refine lv_aload_n hx hb dX11_swaps_7 rfl (lv_at hl 0 rfl) ?_
  refine g11_0 hx hb hts hi11 hown hK hW (k := 0) rfl (hts _ (wm 1 rfl)) dX11_swaps_8 ?_
  refine lv_bipush (v := (83 : Int32)) hx hb dX11_swaps_11 (by decide) ?_
  refine xiald hx hb hK hW (k := 1) (t := 24) rfl (by decide) (by decide) rfl (n := 159) (by decide) (jx := 83) (by decide) dX11_swaps_13 ?_
  refine lv_isub hx hb dX11_swaps_14 ?_
  obtain ⟨M_1, eM_1, hr⟩ := lt1_e hr
  refine xiast hx hb hK hW (k := 1) (t := 24) rfl (by decide) (by decide) rfl (n := 159) (by decide) (jx := 83) (by decide) dX11_swaps_15 (fun H locs hW => ?_)
  rw [← eM_1] at hW
  refine lv_iconst (v := (0 : Int32)) hx hb dX11_swaps_16 (by decide) ?_
  refine lv_istore_n (lv' := [(1, .int (0 : Int32)), (0, .ref (ad 0))]) hx hb dX11_swaps_17 rfl hl (by decide) rfl (fun ls hl => ?_)
  have hL18_1 : ∀ (n : Nat) (x1_2 : Int32) (M_3 : Mm) (H : Heap) (locs : List Loc) (ls : Array Slot) (M_4 : Mm), Xw D false cA ad M_3 (AX false ad) s.heap H locs → lv_has ls 2 [(0, .ref (ad 0)), (1, .int x1_2)] → f_X11_swaps_L18 n x1_2 M_3 = some M_4 → (∀ (H : Heap) (locs : List Loc) (ls : Array Slot), Xw D false cA ad M_4 (AX false ad) s.heap H locs → lv_has ls 2 [(0, .ref (ad 0))] → W p l e (headSpec wsX11_swaps { frames := 2, cells := 0, slots := 0, locals := 46 }).room s m args below meth c H locs 0 0 (MQ below (QiX false D false cA ad r M') args s 0 0 (AX false ad)) (F0 m 71 ls [])) → W p l e (headSpec wsX11_swaps { frames := 2, cells := 0, slots := 0, locals := 46 }).room s m args below meth c H locs 0 0 (MQ below (QiX false D false cA ad r M') args s 0 0 (AX false ad)) (F0 m 18 ls []) := by
    intro n
    induction n with
    | zero =>
      intro x1_2 M_3 H locs ls M_4 hW hl hr hk
      exact absurd hr (by simp [f_X11_swaps_L18])
    | succ n ih =>
      intro x1_2 M_3 H locs ls M_4 hW hl hr hk
      rw [f_X11_swaps_L18] at hr
      refine lv_iload_n hx hb dX11_swaps_18 rfl (lv_at hl 1 rfl) ?_
      refine lv_aload_n hx hb dX11_swaps_19 rfl (lv_at hl 0 rfl) ?_
      refine g11_0 hx hb hts hi11 hown hK hW (k := 0) rfl (hts _ (wm 1 rfl)) dX11_swaps_20 ?_
      refine lv_bipush (v := (64 : Int32)) hx hb dX11_swaps_23 (by decide) ?_
      refine xiald hx hb hK hW (k := 1) (t := 24) rfl (by decide) (by decide) rfl (n := 159) (by decide) (jx := 64) (by decide) dX11_swaps_25 ?_
      refine lv_icmp_ge (tgt := 71) hx hb dX11_swaps_26 (by decide) (fun c1 => ?_) (fun c1 => ?_)
      · have hr := br_p c1 hr
        have e1 := Option.some.inj hr
        subst e1
        exact hk _ _ _ hW (lv_sub hl [0] rfl)
      · have hr := br_n c1 hr
        refine lv_aload_n hx hb dX11_swaps_29 rfl (lv_at hl 0 rfl) ?_
        refine lv_iload_n hx hb dX11_swaps_30 rfl (lv_at hl 1 rfl) ?_
        refine lv_iconst (v := (5 : Int32)) hx hb dX11_swaps_31 (by decide) ?_
        obtain ⟨r_5, hc32, hr⟩ := ob1_e hr
        refine xk_i (va_runV (As := [.int x1_2, .int (5 : Int32)]) (rest := []) ⟨hx, hb, hml, hown, hts⟩ (c_X11_of l D cA ad M_3 x1_2 (5 : Int32) hc32) (cwV 2 hts gX11_swaps_X11_of rfl rfl rfl (by decide +kernel) ⟨Nat.le_of_ble_eq_true rfl, Nat.le_of_ble_eq_true rfl⟩) (xpreV hK hW (k := 0) rfl (by decide) rfl) rfl rfl hl.1 rfl (lv_room (Nat.le_of_ble_eq_true rfl)) dX11_swaps_32 ⟨Nat.le_of_ble_eq_true rfl, Nat.le_of_ble_eq_true rfl⟩) hW (fun H locs hW => ?_)
        refine lv_ldc (v := (-2000000005 : Int32)) hx hb hown (hts _ (wm 2 rfl)) dX11_swaps_35 ?_
        obtain ⟨M_6, hr, hr3⟩ := ob1_e hr
        have hj46_6 : ∀ (H : Heap) (locs : List Loc) (ls : Array Slot), Xw D false cA ad M_6 (AX false ad) s.heap H locs → lv_has ls 2 [(0, .ref (ad 0)), (1, .int x1_2)] → W p l e (headSpec wsX11_swaps { frames := 2, cells := 0, slots := 0, locals := 46 }).room s m args below meth c H locs 0 0 (MQ below (QiX false D false cA ad r M') args s 0 0 (AX false ad)) (F0 m 46 ls []) := by
          intro H locs ls hW hl
          have hr := hr3
          refine lv_aload_n hx hb dX11_swaps_46 rfl (lv_at hl 0 rfl) ?_
          refine lv_iload_n hx hb dX11_swaps_47 rfl (lv_at hl 1 rfl) ?_
          refine lv_bipush (v := (13 : Int32)) hx hb dX11_swaps_48 (by decide) ?_
          obtain ⟨r_8, hc50, hr⟩ := ob1_e hr
          refine xk_i (va_runV (As := [.int x1_2, .int (13 : Int32)]) (rest := []) ⟨hx, hb, hml, hown, hts⟩ (c_X11_of l D cA ad M_6 x1_2 (13 : Int32) hc50) (cwV 2 hts gX11_swaps_X11_of rfl rfl rfl (by decide +kernel) ⟨Nat.le_of_ble_eq_true rfl, Nat.le_of_ble_eq_true rfl⟩) (xpreV hK hW (k := 0) rfl (by decide) rfl) rfl rfl hl.1 rfl (lv_room (Nat.le_of_ble_eq_true rfl)) dX11_swaps_50 ⟨Nat.le_of_ble_eq_true rfl, Nat.le_of_ble_eq_true rfl⟩) hW (fun H locs hW => ?_)
          refine lv_ldc (v := (-2000000005 : Int32)) hx hb hown (hts _ (wm 2 rfl)) dX11_swaps_53 ?_
          obtain ⟨M_9, hr, hr3⟩ := ob1_e hr
          have hj65_9 : ∀ (H : Heap) (locs : List Loc) (ls : Array Slot), Xw D false cA ad M_9 (AX false ad) s.heap H locs → lv_has ls 2 [(0, .ref (ad 0)), (1, .int x1_2)] → W p l e (headSpec wsX11_swaps { frames := 2, cells := 0, slots := 0, locals := 46 }).room s m args below meth c H locs 0 0 (MQ below (QiX false D false cA ad r M') args s 0 0 (AX false ad)) (F0 m 65 ls []) := by
            intro H locs ls hW hl
            have hr := hr3
            obtain ⟨x1_11, ex1_11, hr⟩ := lt1_e hr
            refine lv_iinc (v := x1_11) (lv' := [(1, .int x1_11), (0, .ref (ad 0))]) hx hb dX11_swaps_65 hl (k := 1) rfl (by rw [ex1_11]; rfl) (by decide) rfl (fun ls hl => ?_)
            refine lv_goto (tgt := 18) hx hb dX11_swaps_68 (by decide) ?_
            exact ih x1_11 M_9 _ _ _ _ hW (lv_sub hl [1, 0] rfl) hr hk
          clear hr3
          refine lv_icmp_eq (tgt := 65) hx hb dX11_swaps_55 (by decide) (fun c1 => ?_) (fun c1 => ?_)
          · have hr := br_p c1 hr
            have e1 := Option.some.inj hr
            subst e1
            exact hj65_9 _ _ _ hW (lv_sub hl [0, 1] rfl)
          · have hr := br_n c1 hr
            refine lv_aload_n hx hb dX11_swaps_58 rfl (lv_at hl 0 rfl) ?_
            refine lv_iload_n hx hb dX11_swaps_59 rfl (lv_at hl 1 rfl) ?_
            refine lv_bipush (v := (13 : Int32)) hx hb dX11_swaps_60 (by decide) ?_
            obtain ⟨M_10, hc62, hr⟩ := ob1_e hr
            refine xk_v (va_runV (As := [.int x1_2, .int (13 : Int32)]) (rest := []) ⟨hx, hb, hml, hown, hts⟩ (c_X11_exchanges l D cA ad M_6 x1_2 (13 : Int32) hc62) (cwV 2 hts gX11_swaps_X11_exchanges rfl rfl rfl (by decide +kernel) ⟨Nat.le_of_ble_eq_true rfl, Nat.le_of_ble_eq_true rfl⟩) (xpreV hK hW (k := 0) rfl (by decide) rfl) rfl rfl hl.1 rfl (lv_room (Nat.le_of_ble_eq_true rfl)) dX11_swaps_62 ⟨Nat.le_of_ble_eq_true rfl, Nat.le_of_ble_eq_true rfl⟩) hW (fun H locs hW => ?_)
            have e1 := Option.some.inj hr
            subst e1
            exact hj65_9 _ _ _ hW (lv_sub hl [0, 1] rfl)
        clear hr3
        refine lv_icmp_eq (tgt := 46) hx hb dX11_swaps_37 (by decide) (fun c1 => ?_) (fun c1 => ?_)
        · have hr := br_p c1 hr
          have e1 := Option.some.inj hr
          subst e1
          exact hj46_6 _ _ _ hW (lv_sub hl [0, 1] rfl)
        · have hr := br_n c1 hr
          refine lv_aload_n hx hb dX11_swaps_40 rfl (lv_at hl 0 rfl) ?_
          refine lv_iload_n hx hb dX11_swaps_41 rfl (lv_at hl 1 rfl) ?_
          refine lv_iconst (v := (5 : Int32)) hx hb dX11_swaps_42 (by decide) ?_
          obtain ⟨M_7, hc43, hr⟩ := ob1_e hr
          refine xk_v (va_runV (As := [.int x1_2, .int (5 : Int32)]) (rest := []) ⟨hx, hb, hml, hown, hts⟩ (c_X11_exchanges l D cA ad M_3 x1_2 (5 : Int32) hc43) (cwV 2 hts gX11_swaps_X11_exchanges rfl rfl rfl (by decide +kernel) ⟨Nat.le_of_ble_eq_true rfl, Nat.le_of_ble_eq_true rfl⟩) (xpreV hK hW (k := 0) rfl (by decide) rfl) rfl rfl hl.1 rfl (lv_room (Nat.le_of_ble_eq_true rfl)) dX11_swaps_43 ⟨Nat.le_of_ble_eq_true rfl, Nat.le_of_ble_eq_true rfl⟩) hW (fun H locs hW => ?_)
          have e1 := Option.some.inj hr
          subst e1
          exact hj46_6 _ _ _ hW (lv_sub hl [0, 1] rfl)
  obtain ⟨M_4, hr, hr3⟩ := ob1_e hr
  refine hL18_1 1000 (0 : Int32) M_1 _ _ _ M_4 hW (lv_sub hl [1, 0] rfl) hr (fun H locs ls hW hl => ?_)
  clear hr
  have hr := hr3
  refine lv_aload_n hx hb dX11_swaps_71 rfl (lv_at hl 0 rfl) ?_
  refine g11_0 hx hb hts hi11 hown hK hW (k := 0) rfl (hts _ (wm 1 rfl)) dX11_swaps_72 ?_
  refine lv_bipush (v := (83 : Int32)) hx hb dX11_swaps_75 (by decide) ?_
  refine xiald hx hb hK hW (k := 1) (t := 24) rfl (by decide) (by decide) rfl (n := 159) (by decide) (jx := 83) (by decide) dX11_swaps_77 ?_
  obtain ⟨e1, e2⟩ := Prod.mk.inj (Option.some.inj hr)
  rw [← e1, ← e2]
  exact xiret hx hb hr0 hlocks hW adR_rf dX11_swaps_78

set_option maxHeartbeats 4000000 in
set_option maxRecDepth 100000 in
theorem c_X11_swap (l : Launch) (D : va_G) (cA : Nat → ClassId) (ad : Nat → Nat) (M : Mm) {r : Int32} {M' : Mm} (hr : f_X11_swap M = some (r, M')) : Met l yX11_swap wsX11_swap ({ frames := 3, cells := 0, slots := 0, locals := 67 }) (PcX D false cA ad M [.ref (ad 0)]) (QiX false D false cA ad r M') 0 0 (AX false ad) := by
  refine Met.ofW (cc := cX11_swap) (maxL := 1) (ret := (some .int)) (by decide) rfl ?_
  intro p e s m args below meth c s₁ B hml hv
  obtain ⟨hav, hP0, hK⟩ := hv
  have hx := B.exec
  have hb := B.bytes
  have hr0 := B.returns
  have hts := atoms_spec (ws := wsX11_swap) B.pre
  have hown : s.vm.findClass RX11 = some m.cls := findClass_of_methodNamed B.named
  have hlocks := B.notSynchronized
  have hW := xstart hP0
  have hl := lv_entry ([.ref (ad 0)]) (n := 1) (Nat.le_of_ble_eq_true rfl)
  have hef := lg_entry_eq m ([.ref (ad 0)]) 1
  rw [← hav] at hef
  rw [hef]
  clear hef
  generalize (lg_sl ([.ref (ad 0)]) ++ List.replicate (1 - (lg_sl ([.ref (ad 0)])).length) Slot.unset).toArray = ls at hl ⊢
  have hl : lv_has ls 1 [(0, .ref (ad 0))] := hl
  clear hP0
  unfold f_X11_swap at hr
  refine lv_aload_n hx hb dX11_swap_0 rfl (lv_at hl 0 rfl) ?_
  obtain ⟨M_1, hc1, hr⟩ := ob1_e hr
  refine xk_v (va_runV (As := []) (rest := []) ⟨hx, hb, hml, hown, hts⟩ (c_X11_records l D cA ad M hc1) (cwV 0 hts gX11_swap_X11_records rfl rfl rfl (by decide +kernel) ⟨Nat.le_of_ble_eq_true rfl, Nat.le_of_ble_eq_true rfl⟩) (xpreV hK hW (k := 0) rfl (by decide) rfl) rfl rfl hl.1 rfl (lv_room (Nat.le_of_ble_eq_true rfl)) dX11_swap_1 ⟨Nat.le_of_ble_eq_true rfl, Nat.le_of_ble_eq_true rfl⟩) hW (fun H locs hW => ?_)
  refine lv_aload_n hx hb dX11_swap_4 rfl (lv_at hl 0 rfl) ?_
  obtain ⟨r_3, M_2, hc5, hr⟩ := ob2_e hr
  refine xk_i (va_runV (As := []) (rest := []) ⟨hx, hb, hml, hown, hts⟩ (c_X11_swaps l D cA ad M_1 hc5) (cwV 0 hts gX11_swap_X11_swaps rfl rfl rfl (by decide +kernel) ⟨Nat.le_of_ble_eq_true rfl, Nat.le_of_ble_eq_true rfl⟩) (xpreV hK hW (k := 0) rfl (by decide) rfl) rfl rfl hl.1 rfl (lv_room (Nat.le_of_ble_eq_true rfl)) dX11_swap_5 ⟨Nat.le_of_ble_eq_true rfl, Nat.le_of_ble_eq_true rfl⟩) hW (fun H locs hW => ?_)
  obtain ⟨e1, e2⟩ := Prod.mk.inj (Option.some.inj hr)
  rw [← e1, ← e2]
  exact xiret hx hb hr0 hlocks hW adR_rf dX11_swap_8

set_option maxHeartbeats 4000000 in
set_option maxRecDepth 100000 in
theorem c_X11_forget (l : Launch) (D : va_G) (cA : Nat → ClassId) (ad : Nat → Nat) (M : Mm) (x1 : Int32) {r : Int32} {M' : Mm} (hr : f_X11_forget x1 M = some (r, M')) : Met l yX11_forget wsX11_forget ({ frames := 2, cells := 0, slots := 0, locals := 43 }) (PcX D false cA ad M [.ref (ad 0), .int x1]) (QiX false D false cA ad r M') 0 0 (AX false ad) := by
  refine Met.ofW (cc := cX11_forget) (maxL := 3) (ret := (some .int)) (by decide) rfl ?_
  intro p e s m args below meth c s₁ B hml hv
  obtain ⟨hav, hP0, hK⟩ := hv
  have hx := B.exec
  have hb := B.bytes
  have hr0 := B.returns
  have hts := atoms_spec (ws := wsX11_forget) B.pre
  have hown : s.vm.findClass RX11 = some m.cls := findClass_of_methodNamed B.named
  have hlocks := B.notSynchronized
  have hW := xstart hP0
  have hl := lv_entry ([.ref (ad 0), .int x1]) (n := 3) (Nat.le_of_ble_eq_true rfl)
  have hef := lg_entry_eq m ([.ref (ad 0), .int x1]) 3
  rw [← hav] at hef
  rw [hef]
  clear hef
  generalize (lg_sl ([.ref (ad 0), .int x1]) ++ List.replicate (3 - (lg_sl ([.ref (ad 0), .int x1])).length) Slot.unset).toArray = ls at hl ⊢
  have hl : lv_has ls 3 [(0, .ref (ad 0)), (1, .int x1)] := hl
  clear hP0
  unfold f_X11_forget at hr
  refine lv_aload_n hx hb dX11_forget_0 rfl (lv_at hl 0 rfl) ?_
  refine lv_iload_n hx hb dX11_forget_1 rfl (lv_at hl 1 rfl) ?_
  obtain ⟨r_1, hc2, hr⟩ := ob1_e hr
  refine xk_i (va_runV (As := [.int x1]) (rest := []) ⟨hx, hb, hml, hown, hts⟩ (c_X11_isPath l D cA ad M x1 hc2) (cwV 1 hts gX11_forget_X11_isPath rfl rfl rfl (by decide +kernel) ⟨Nat.le_of_ble_eq_true rfl, Nat.le_of_ble_eq_true rfl⟩) (xpreV hK hW (k := 0) rfl (by decide) rfl) rfl rfl hl.1 rfl (lv_room (Nat.le_of_ble_eq_true rfl)) dX11_forget_2 ⟨Nat.le_of_ble_eq_true rfl, Nat.le_of_ble_eq_true rfl⟩) hW (fun H locs hW => ?_)
  refine lv_if_ne (tgt := 11) hx hb dX11_forget_5 (by decide) (fun c1 => ?_) (fun c1 => ?_)
  · have hr := br_n c1 hr
    refine lv_aload_n hx hb dX11_forget_11 rfl (lv_at hl 0 rfl) ?_
    obtain ⟨M_2, hc12, hr⟩ := ob1_e hr
    refine xk_v (va_runV (As := []) (rest := []) ⟨hx, hb, hml, hown, hts⟩ (c_X11_records l D cA ad M hc12) (cwV 0 hts gX11_forget_X11_records rfl rfl rfl (by decide +kernel) ⟨Nat.le_of_ble_eq_true rfl, Nat.le_of_ble_eq_true rfl⟩) (xpreV hK hW (k := 0) rfl (by decide) rfl) rfl rfl hl.1 rfl (lv_room (Nat.le_of_ble_eq_true rfl)) dX11_forget_12 ⟨Nat.le_of_ble_eq_true rfl, Nat.le_of_ble_eq_true rfl⟩) hW (fun H locs hW => ?_)
    refine lv_aload_n hx hb dX11_forget_15 rfl (lv_at hl 0 rfl) ?_
    refine lv_iload_n hx hb dX11_forget_16 rfl (lv_at hl 1 rfl) ?_
    refine lv_iconst (v := (5 : Int32)) hx hb dX11_forget_17 (by decide) ?_
    obtain ⟨r_3, hc18, hr⟩ := ob1_e hr
    refine xk_i (va_runV (As := [.int x1, .int (5 : Int32)]) (rest := []) ⟨hx, hb, hml, hown, hts⟩ (c_X11_of l D cA ad M_2 x1 (5 : Int32) hc18) (cwV 2 hts gX11_forget_X11_of rfl rfl rfl (by decide +kernel) ⟨Nat.le_of_ble_eq_true rfl, Nat.le_of_ble_eq_true rfl⟩) (xpreV hK hW (k := 0) rfl (by decide) rfl) rfl rfl hl.1 rfl (lv_room (Nat.le_of_ble_eq_true rfl)) dX11_forget_18 ⟨Nat.le_of_ble_eq_true rfl, Nat.le_of_ble_eq_true rfl⟩) hW (fun H locs hW => ?_)
    refine lv_ldc (v := (-2000000005 : Int32)) hx hb hown (hts _ (wm 2 rfl)) dX11_forget_21 ?_
    obtain ⟨y_4, hr, hr3⟩ := ob1_e hr
    have hj31_4 : ∀ (H : Heap) (locs : List Loc) (ls : Array Slot), Xw D false cA ad M_2 (AX false ad) s.heap H locs → lv_has ls 3 [(0, .ref (ad 0)), (1, .int x1)] → W p l e (headSpec wsX11_forget { frames := 2, cells := 0, slots := 0, locals := 43 }).room s m args below meth c H locs 0 0 (MQ below (QiX false D false cA ad r M') args s 0 0 (AX false ad)) (F0 m 31 ls [.int y_4]) := by
      intro H locs ls hW hl
      have hr := hr3
      refine lv_istore_n (lv' := [(2, .int y_4), (0, .ref (ad 0)), (1, .int x1)]) hx hb dX11_forget_31 rfl hl (by decide) rfl (fun ls hl => ?_)
      refine lv_aload_n hx hb dX11_forget_32 rfl (lv_at hl 1 rfl) ?_
      refine lv_iload_n hx hb dX11_forget_33 rfl (lv_at hl 2 rfl) ?_
      refine lv_iconst (v := (5 : Int32)) hx hb dX11_forget_34 (by decide) ?_
      refine lv_ldc (v := (-2000000005 : Int32)) hx hb hown (hts _ (wm 2 rfl)) dX11_forget_35 ?_
      obtain ⟨M_5, hc37, hr⟩ := ob1_e hr
      refine xk_v (va_runV (As := [.int x1, .int (5 : Int32), .int (-2000000005 : Int32)]) (rest := []) ⟨hx, hb, hml, hown, hts⟩ (c_X11_lay l D cA ad M_2 x1 (5 : Int32) (-2000000005 : Int32) hc37) (cwV 3 hts gX11_forget_X11_lay rfl rfl rfl (by decide +kernel) ⟨Nat.le_of_ble_eq_true rfl, Nat.le_of_ble_eq_true rfl⟩) (xpreV hK hW (k := 0) rfl (by decide) rfl) rfl rfl hl.1 rfl (lv_room (Nat.le_of_ble_eq_true rfl)) dX11_forget_37 ⟨Nat.le_of_ble_eq_true rfl, Nat.le_of_ble_eq_true rfl⟩) hW (fun H locs hW => ?_)
      refine lv_aload_n hx hb dX11_forget_40 rfl (lv_at hl 1 rfl) ?_
      refine lv_iload_n hx hb dX11_forget_41 rfl (lv_at hl 2 rfl) ?_
      refine lv_bipush (v := (6 : Int32)) hx hb dX11_forget_42 (by decide) ?_
      refine lv_ldc (v := (-2000000005 : Int32)) hx hb hown (hts _ (wm 2 rfl)) dX11_forget_44 ?_
      obtain ⟨M_6, hc46, hr⟩ := ob1_e hr
      refine xk_v (va_runV (As := [.int x1, .int (6 : Int32), .int (-2000000005 : Int32)]) (rest := []) ⟨hx, hb, hml, hown, hts⟩ (c_X11_lay l D cA ad M_5 x1 (6 : Int32) (-2000000005 : Int32) hc46) (cwV 3 hts gX11_forget_X11_lay rfl rfl rfl (by decide +kernel) ⟨Nat.le_of_ble_eq_true rfl, Nat.le_of_ble_eq_true rfl⟩) (xpreV hK hW (k := 0) rfl (by decide) rfl) rfl rfl hl.1 rfl (lv_room (Nat.le_of_ble_eq_true rfl)) dX11_forget_46 ⟨Nat.le_of_ble_eq_true rfl, Nat.le_of_ble_eq_true rfl⟩) hW (fun H locs hW => ?_)
      refine lv_aload_n hx hb dX11_forget_49 rfl (lv_at hl 1 rfl) ?_
      refine lv_iload_n hx hb dX11_forget_50 rfl (lv_at hl 2 rfl) ?_
      refine lv_bipush (v := (7 : Int32)) hx hb dX11_forget_51 (by decide) ?_
      refine lv_ldc (v := (-2000000005 : Int32)) hx hb hown (hts _ (wm 2 rfl)) dX11_forget_53 ?_
      obtain ⟨M_7, hc55, hr⟩ := ob1_e hr
      refine xk_v (va_runV (As := [.int x1, .int (7 : Int32), .int (-2000000005 : Int32)]) (rest := []) ⟨hx, hb, hml, hown, hts⟩ (c_X11_lay l D cA ad M_6 x1 (7 : Int32) (-2000000005 : Int32) hc55) (cwV 3 hts gX11_forget_X11_lay rfl rfl rfl (by decide +kernel) ⟨Nat.le_of_ble_eq_true rfl, Nat.le_of_ble_eq_true rfl⟩) (xpreV hK hW (k := 0) rfl (by decide) rfl) rfl rfl hl.1 rfl (lv_room (Nat.le_of_ble_eq_true rfl)) dX11_forget_55 ⟨Nat.le_of_ble_eq_true rfl, Nat.le_of_ble_eq_true rfl⟩) hW (fun H locs hW => ?_)
      refine lv_iload_n hx hb dX11_forget_58 rfl (lv_at hl 0 rfl) ?_
      obtain ⟨e1, e2⟩ := Prod.mk.inj (Option.some.inj hr)
      rw [← e1, ← e2]
      exact xiret hx hb hr0 hlocks hW adR_rf dX11_forget_59
    clear hr3
    refine lv_icmp_ne (tgt := 30) hx hb dX11_forget_23 (by decide) (fun c1 => ?_) (fun c1 => ?_)
    · have hr := br_n c1 hr
      refine lv_iconst (v := (1 : Int32)) hx hb dX11_forget_30 (by decide) ?_
      have e1 := Option.some.inj hr
      subst e1
      exact hj31_4 _ _ _ hW (lv_sub hl [0, 1] rfl)
    · have hr := br_p c1 hr
      refine lv_iconst (v := (0 : Int32)) hx hb dX11_forget_26 (by decide) ?_
      refine lv_goto (tgt := 31) hx hb dX11_forget_27 (by decide) ?_
      have e1 := Option.some.inj hr
      subst e1
      exact hj31_4 _ _ _ hW (lv_sub hl [0, 1] rfl)
  · have hr := br_p c1 hr
    refine lv_ldc (v := (-2000000001 : Int32)) hx hb hown (hts _ (wm 1 rfl)) dX11_forget_8 ?_
    obtain ⟨e1, e2⟩ := Prod.mk.inj (Option.some.inj hr)
    rw [← e1, ← e2]
    exact xiret hx hb hr0 hlocks hW adR_rf dX11_forget_10

set_option maxHeartbeats 4000000 in
set_option maxRecDepth 100000 in
theorem c_X11_append (l : Launch) (D : va_G) (cA : Nat → ClassId) (ad : Nat → Nat) (M : Mm) (x1 : Int32) {r : Int32} {M' : Mm} (hr : f_X11_append x1 M = some (r, M')) : Met l yX11_append wsX11_append ({ frames := 1, cells := 0, slots := 0, locals := 22 }) (PcX D false cA ad M [.ref (ad 0), .int x1]) (QiX false D false cA ad r M') 0 0 (AX false ad) := by
  refine Met.ofW (cc := cX11_append) (maxL := 2) (ret := (some .int)) (by decide) rfl ?_
  intro p e s m args below meth c s₁ B hml hv
  obtain ⟨hav, hP0, hK⟩ := hv
  have hx := B.exec
  have hb := B.bytes
  have hr0 := B.returns
  have hts := atoms_spec (ws := wsX11_append) B.pre
  have hown : s.vm.findClass RX11 = some m.cls := findClass_of_methodNamed B.named
  have hlocks := B.notSynchronized
  have hW := xstart hP0
  have hi11 : ∀ w ∈ wsX110, w ∈ wsX11_append := fun w h => List.mem_cons_of_mem _ (List.mem_append_right _ h)
  have hl := lv_entry ([.ref (ad 0), .int x1]) (n := 2) (Nat.le_of_ble_eq_true rfl)
  have hef := lg_entry_eq m ([.ref (ad 0), .int x1]) 2
  rw [← hav] at hef
  rw [hef]
  clear hef
  generalize (lg_sl ([.ref (ad 0), .int x1]) ++ List.replicate (2 - (lg_sl ([.ref (ad 0), .int x1])).length) Slot.unset).toArray = ls at hl ⊢
  have hl : lv_has ls 2 [(0, .ref (ad 0)), (1, .int x1)] := hl
  clear hP0
  unfold f_X11_append at hr
  refine lv_iload_n hx hb dX11_append_0 rfl (lv_at hl 1 rfl) ?_
  refine lv_bipush (v := (32 : Int32)) hx hb dX11_append_1 (by decide) ?_
  refine lv_bipush (v := (126 : Int32)) hx hb dX11_append_3 (by decide) ?_
  obtain ⟨r_1, hc5, hr⟩ := ob1_e hr
  refine xk_i (va_runS (As := [.int x1, .int (32 : Int32), .int (126 : Int32)]) (rest := []) ⟨hx, hb, hml, hown, hts⟩ (c_X11_in l D cA ad M x1 (32 : Int32) (126 : Int32) hc5) (va_cwS 3 hts gX11_append_X11_in rfl rfl rfl (by decide +kernel) ⟨Nat.le_of_ble_eq_true rfl, Nat.le_of_ble_eq_true rfl⟩) (xpreS hK hW) rfl rfl hl.1 rfl (lv_room (Nat.le_of_ble_eq_true rfl)) dX11_append_5 ⟨Nat.le_of_ble_eq_true rfl, Nat.le_of_ble_eq_true rfl⟩) hW (fun H locs hW => ?_)
  refine lv_if_ne (tgt := 14) hx hb dX11_append_8 (by decide) (fun c1 => ?_) (fun c1 => ?_)
  · have hr := br_n c1 hr
    refine lv_aload_n hx hb dX11_append_14 rfl (lv_at hl 0 rfl) ?_
    refine g11_9 hx hb hts hi11 hown hK hW (k := 0) rfl (hts _ (wm 2 rfl)) dX11_append_15 ?_
    refine lv_bipush (v := (100 : Int32)) hx hb dX11_append_18 (by decide) ?_
    refine lv_icmp_ne (tgt := 26) hx hb dX11_append_20 (by decide) (fun c1 => ?_) (fun c1 => ?_)
    · have hr := br_n c1 hr
      refine lv_aload_n hx hb dX11_append_26 rfl (lv_at hl 0 rfl) ?_
      refine g11_8 hx hb hts hi11 hown hK hW (k := 0) rfl (hts _ (wm 4 rfl)) dX11_append_27 ?_
      refine lv_aload_n hx hb dX11_append_30 rfl (lv_at hl 0 rfl) ?_
      refine g11_9 hx hb hts hi11 hown hK hW (k := 0) rfl (hts _ (wm 2 rfl)) dX11_append_31 ?_
      refine lv_iload_n hx hb dX11_append_34 rfl (lv_at hl 1 rfl) ?_
      obtain ⟨hn35, hr⟩ := chk_e hr
      obtain ⟨M_2, eM_2, hr⟩ := lt1_e hr
      refine xiast hx hb hK hW (k := 8) (t := 23) rfl (by decide) (by decide) rfl (n := 100) hn35 (jx := (ix (gI M 0 9))) rfl dX11_append_35 (fun H locs hW => ?_)
      rw [← eM_2] at hW
      refine lv_aload_n hx hb dX11_append_36 rfl (lv_at hl 0 rfl) ?_
      refine lv_dup hx hb dX11_append_37 rfl ?_
      refine g11_9 hx hb hts hi11 hown hK hW (k := 0) rfl (hts _ (wm 2 rfl)) dX11_append_38 ?_
      refine lv_iconst (v := (1 : Int32)) hx hb dX11_append_41 (by decide) ?_
      refine lv_iadd hx hb dX11_append_42 ?_
      obtain ⟨M_3, eM_3, hr⟩ := lt1_e hr
      refine p11_9 hx hb hts hi11 hown hK hW (k := 0) rfl (hts _ (wm 2 rfl)) dX11_append_43 (fun H locs hW => ?_)
      rw [← eM_3] at hW
      refine lv_aload_n hx hb dX11_append_46 rfl (lv_at hl 0 rfl) ?_
      refine g11_9 hx hb hts hi11 hown hK hW (k := 0) rfl (hts _ (wm 2 rfl)) dX11_append_47 ?_
      obtain ⟨e1, e2⟩ := Prod.mk.inj (Option.some.inj hr)
      rw [← e1, ← e2]
      exact xiret hx hb hr0 hlocks hW adR_rf dX11_append_50
    · have hr := br_p c1 hr
      refine lv_ldc (v := (-2000000004 : Int32)) hx hb hown (hts _ (wm 3 rfl)) dX11_append_23 ?_
      obtain ⟨e1, e2⟩ := Prod.mk.inj (Option.some.inj hr)
      rw [← e1, ← e2]
      exact xiret hx hb hr0 hlocks hW adR_rf dX11_append_25
  · have hr := br_p c1 hr
    refine lv_ldc (v := (-2000000002 : Int32)) hx hb hown (hts _ (wm 1 rfl)) dX11_append_11 ?_
    obtain ⟨e1, e2⟩ := Prod.mk.inj (Option.some.inj hr)
    rw [← e1, ← e2]
    exact xiret hx hb hr0 hlocks hW adR_rf dX11_append_13

set_option maxHeartbeats 4000000 in
set_option maxRecDepth 100000 in
theorem c_X11_clearText (l : Launch) (D : va_G) (cA : Nat → ClassId) (ad : Nat → Nat) (M : Mm) {r : Int32} {M' : Mm} (hr : f_X11_clearText M = some (r, M')) : Met l yX11_clearText wsX11_clearText ({ frames := 0, cells := 0, slots := 0, locals := 0 }) (PcX D false cA ad M [.ref (ad 0)]) (QiX false D false cA ad r M') 0 0 (AX false ad) := by
  refine Met.ofW (cc := cX11_clearText) (maxL := 2) (ret := (some .int)) (by decide) rfl ?_
  intro p e s m args below meth c s₁ B hml hv
  obtain ⟨hav, hP0, hK⟩ := hv
  have hx := B.exec
  have hb := B.bytes
  have hr0 := B.returns
  have hts := atoms_spec (ws := wsX11_clearText) B.pre
  have hown : s.vm.findClass RX11 = some m.cls := findClass_of_methodNamed B.named
  have hlocks := B.notSynchronized
  have hW := xstart hP0
  have hi11 : ∀ w ∈ wsX110, w ∈ wsX11_clearText := fun w h => List.mem_cons_of_mem _ (List.mem_append_right _ h)
  have hl := lv_entry ([.ref (ad 0)]) (n := 2) (Nat.le_of_ble_eq_true rfl)
  have hef := lg_entry_eq m ([.ref (ad 0)]) 2
  rw [← hav] at hef
  rw [hef]
  clear hef
  generalize (lg_sl ([.ref (ad 0)]) ++ List.replicate (2 - (lg_sl ([.ref (ad 0)])).length) Slot.unset).toArray = ls at hl ⊢
  have hl : lv_has ls 2 [(0, .ref (ad 0))] := hl
  clear hP0
  unfold f_X11_clearText at hr
  refine lv_aload_n hx hb dX11_clearText_0 rfl (lv_at hl 0 rfl) ?_
  refine g11_9 hx hb hts hi11 hown hK hW (k := 0) rfl (hts _ (wm 1 rfl)) dX11_clearText_1 ?_
  obtain ⟨x1_1, ex1_1, hr⟩ := lt1_e hr
  rw [← ex1_1]
  refine lv_istore_n (lv' := [(1, .int x1_1), (0, .ref (ad 0))]) hx hb dX11_clearText_4 rfl hl (by decide) rfl (fun ls hl => ?_)
  refine lv_aload_n hx hb dX11_clearText_5 rfl (lv_at hl 1 rfl) ?_
  refine lv_iconst (v := (0 : Int32)) hx hb dX11_clearText_6 (by decide) ?_
  obtain ⟨M_2, eM_2, hr⟩ := lt1_e hr
  refine p11_9 hx hb hts hi11 hown hK hW (k := 0) rfl (hts _ (wm 1 rfl)) dX11_clearText_7 (fun H locs hW => ?_)
  rw [← eM_2] at hW
  refine lv_iload_n hx hb dX11_clearText_10 rfl (lv_at hl 0 rfl) ?_
  obtain ⟨e1, e2⟩ := Prod.mk.inj (Option.some.inj hr)
  rw [← e1, ← e2]
  exact xiret hx hb hr0 hlocks hW adR_rf dX11_clearText_11

set_option maxHeartbeats 4000000 in
set_option maxRecDepth 100000 in
theorem c_X11_here (l : Launch) (D : va_G) (cA : Nat → ClassId) (ad : Nat → Nat) (M : Mm) {r : Int32} (hr : f_X11_here M = some r) : Met l yX11_here wsX11_here ({ frames := 0, cells := 0, slots := 0, locals := 0 }) (PcX D false cA ad M [.ref (ad 0)]) (QiX false D false cA ad r M) 0 0 (AX false ad) := by
  refine Met.ofW (cc := cX11_here) (maxL := 1) (ret := (some .int)) (by decide) rfl ?_
  intro p e s m args below meth c s₁ B hml hv
  obtain ⟨hav, hP0, hK⟩ := hv
  have hx := B.exec
  have hb := B.bytes
  have hr0 := B.returns
  have hts := atoms_spec (ws := wsX11_here) B.pre
  have hown : s.vm.findClass RX11 = some m.cls := findClass_of_methodNamed B.named
  have hlocks := B.notSynchronized
  have hW := xstart hP0
  have hi11 : ∀ w ∈ wsX110, w ∈ wsX11_here := fun w h => List.mem_cons_of_mem _ (List.mem_append_right _ h)
  have hl := lv_entry ([.ref (ad 0)]) (n := 1) (Nat.le_of_ble_eq_true rfl)
  have hef := lg_entry_eq m ([.ref (ad 0)]) 1
  rw [← hav] at hef
  rw [hef]
  clear hef
  generalize (lg_sl ([.ref (ad 0)]) ++ List.replicate (1 - (lg_sl ([.ref (ad 0)])).length) Slot.unset).toArray = ls at hl ⊢
  have hl : lv_has ls 1 [(0, .ref (ad 0))] := hl
  clear hP0
  unfold f_X11_here at hr
  refine lv_aload_n hx hb dX11_here_0 rfl (lv_at hl 0 rfl) ?_
  refine g11_21 hx hb hts hi11 hown hK hW (k := 0) rfl (hts _ (wm 1 rfl)) dX11_here_1 ?_
  refine lv_aload_n hx hb dX11_here_4 rfl (lv_at hl 0 rfl) ?_
  refine g11_9 hx hb hts hi11 hown hK hW (k := 0) rfl (hts _ (wm 2 rfl)) dX11_here_5 ?_
  refine lv_icmp_ge (tgt := 23) hx hb dX11_here_8 (by decide) (fun c1 => ?_) (fun c1 => ?_)
  · have hr := br_p c1 hr
    refine lv_iconst (v := (-1 : Int32)) hx hb dX11_here_23 (by decide) ?_
    rw [← Option.some.inj hr]
    exact xiret hx hb hr0 hlocks hW adR_rf dX11_here_24
  · have hr := br_n c1 hr
    refine lv_aload_n hx hb dX11_here_11 rfl (lv_at hl 0 rfl) ?_
    refine g11_8 hx hb hts hi11 hown hK hW (k := 0) rfl (hts _ (wm 3 rfl)) dX11_here_12 ?_
    refine lv_aload_n hx hb dX11_here_15 rfl (lv_at hl 0 rfl) ?_
    refine g11_21 hx hb hts hi11 hown hK hW (k := 0) rfl (hts _ (wm 1 rfl)) dX11_here_16 ?_
    obtain ⟨hn19, hr⟩ := chk_e hr
    refine xiald hx hb hK hW (k := 8) (t := 23) rfl (by decide) (by decide) rfl (n := 100) hn19 (jx := (ix (gI M 0 21))) rfl dX11_here_19 ?_
    refine lv_goto (tgt := 24) hx hb dX11_here_20 (by decide) ?_
    rw [← Option.some.inj hr]
    exact xiret hx hb hr0 hlocks hW adR_rf dX11_here_24

set_option maxHeartbeats 4000000 in
set_option maxRecDepth 100000 in
theorem c_X11_passes (l : Launch) (D : va_G) (cA : Nat → ClassId) (ad : Nat → Nat) (M : Mm) (x1 : Int32) {r : Int32} {M' : Mm} (hr : f_X11_passes x1 M = some (r, M')) : Met l yX11_passes wsX11_passes ({ frames := 1, cells := 0, slots := 0, locals := 20 }) (PcX D false cA ad M [.ref (ad 0), .int x1]) (QiX false D false cA ad r M') 0 0 (AX false ad) := by
  refine Met.ofW (cc := cX11_passes) (maxL := 3) (ret := (some .boolean)) (by decide) rfl ?_
  intro p e s m args below meth c s₁ B hml hv
  obtain ⟨hav, hP0, hK⟩ := hv
  have hx := B.exec
  have hb := B.bytes
  have hr0 := B.returns
  have hts := atoms_spec (ws := wsX11_passes) B.pre
  have hown : s.vm.findClass RX11 = some m.cls := findClass_of_methodNamed B.named
  have hlocks := B.notSynchronized
  have hW := xstart hP0
  have hi11 : ∀ w ∈ wsX110, w ∈ wsX11_passes := fun w h => List.mem_cons_of_mem _ (List.mem_append_right _ h)
  have hl := lv_entry ([.ref (ad 0), .int x1]) (n := 3) (Nat.le_of_ble_eq_true rfl)
  have hef := lg_entry_eq m ([.ref (ad 0), .int x1]) 3
  rw [← hav] at hef
  rw [hef]
  clear hef
  generalize (lg_sl ([.ref (ad 0), .int x1]) ++ List.replicate (3 - (lg_sl ([.ref (ad 0), .int x1])).length) Slot.unset).toArray = ls at hl ⊢
  have hl : lv_has ls 3 [(0, .ref (ad 0)), (1, .int x1)] := hl
  clear hP0
  unfold f_X11_passes at hr
  refine lv_aload_n hx hb dX11_passes_0 rfl (lv_at hl 0 rfl) ?_
  obtain ⟨r_1, hc1, hr⟩ := ob1_e hr
  refine xk_i (va_runV (As := []) (rest := []) ⟨hx, hb, hml, hown, hts⟩ (c_X11_here l D cA ad M hc1) (cwV 0 hts gX11_passes_X11_here rfl rfl rfl (by decide +kernel) ⟨Nat.le_of_ble_eq_true rfl, Nat.le_of_ble_eq_true rfl⟩) (xpreV hK hW (k := 0) rfl (by decide) rfl) rfl rfl hl.1 rfl (lv_room (Nat.le_of_ble_eq_true rfl)) dX11_passes_1 ⟨Nat.le_of_ble_eq_true rfl, Nat.le_of_ble_eq_true rfl⟩) hW (fun H locs hW => ?_)
  refine lv_iload_n hx hb dX11_passes_4 rfl (lv_at hl 1 rfl) ?_
  obtain ⟨y_2, hr, hr3⟩ := ob1_e hr
  have hj13_2 : ∀ (H : Heap) (locs : List Loc) (ls : Array Slot), Xw D false cA ad M (AX false ad) s.heap H locs → lv_has ls 3 [(0, .ref (ad 0))] → W p l e (headSpec wsX11_passes { frames := 1, cells := 0, slots := 0, locals := 20 }).room s m args below meth c H locs 0 0 (MQ below (QiX false D false cA ad r M') args s 0 0 (AX false ad)) (F0 m 13 ls [.int y_2]) := by
    intro H locs ls hW hl
    have hr := hr3
    refine lv_istore_n (lv' := [(2, .int y_2), (0, .ref (ad 0))]) hx hb dX11_passes_13 rfl hl (by decide) rfl (fun ls hl => ?_)
    refine lv_aload_n hx hb dX11_passes_14 rfl (lv_at hl 1 rfl) ?_
    refine lv_dup hx hb dX11_passes_15 rfl ?_
    refine g11_21 hx hb hts hi11 hown hK hW (k := 0) rfl (hts _ (wm 1 rfl)) dX11_passes_16 ?_
    refine lv_iload_n hx hb dX11_passes_19 rfl (lv_at hl 0 rfl) ?_
    obtain ⟨y_3, hr, hr3⟩ := ob1_e hr
    have hj28_3 : ∀ (H : Heap) (locs : List Loc) (ls : Array Slot), Xw D false cA ad M (AX false ad) s.heap H locs → lv_has ls 3 [(2, .int y_2)] → W p l e (headSpec wsX11_passes { frames := 1, cells := 0, slots := 0, locals := 20 }).room s m args below meth c H locs 0 0 (MQ below (QiX false D false cA ad r M') args s 0 0 (AX false ad)) (F0 m 28 ls [.int y_3, .int (gI M 0 21), .ref (ad 0)]) := by
      intro H locs ls hW hl
      have hr := hr3
      refine lv_iadd hx hb dX11_passes_28 ?_
      obtain ⟨M_4, eM_4, hr⟩ := lt1_e hr
      refine p11_21 hx hb hts hi11 hown hK hW (k := 0) rfl (hts _ (wm 1 rfl)) dX11_passes_29 (fun H locs hW => ?_)
      rw [← eM_4] at hW
      refine lv_iload_n hx hb dX11_passes_32 rfl (lv_at hl 0 rfl) ?_
      obtain ⟨hz33, hr⟩ := chk_e hr
      obtain ⟨e1, e2⟩ := Prod.mk.inj (Option.some.inj hr)
      rw [← e1, ← e2]
      exact xzret hx hb hr0 hlocks hW adR_rf hz33 dX11_passes_33
    clear hr3
    refine lv_if_eq (tgt := 27) hx hb dX11_passes_20 (by decide) (fun c1 => ?_) (fun c1 => ?_)
    · have hr := br_p c1 hr
      refine lv_iconst (v := (0 : Int32)) hx hb dX11_passes_27 (by decide) ?_
      have e1 := Option.some.inj hr
      subst e1
      exact hj28_3 _ _ _ hW (lv_sub hl [0] rfl)
    · have hr := br_n c1 hr
      refine lv_iconst (v := (1 : Int32)) hx hb dX11_passes_23 (by decide) ?_
      refine lv_goto (tgt := 28) hx hb dX11_passes_24 (by decide) ?_
      have e1 := Option.some.inj hr
      subst e1
      exact hj28_3 _ _ _ hW (lv_sub hl [0] rfl)
  clear hr3
  refine lv_icmp_ne (tgt := 12) hx hb dX11_passes_5 (by decide) (fun c1 => ?_) (fun c1 => ?_)
  · have hr := br_n c1 hr
    refine lv_iconst (v := (0 : Int32)) hx hb dX11_passes_12 (by decide) ?_
    have e1 := Option.some.inj hr
    subst e1
    exact hj13_2 _ _ _ hW (lv_sub hl [0] rfl)
  · have hr := br_p c1 hr
    refine lv_iconst (v := (1 : Int32)) hx hb dX11_passes_8 (by decide) ?_
    refine lv_goto (tgt := 13) hx hb dX11_passes_9 (by decide) ?_
    have e1 := Option.some.inj hr
    subst e1
    exact hj13_2 _ _ _ hW (lv_sub hl [0] rfl)

set_option maxHeartbeats 4000000 in
set_option maxRecDepth 100000 in
theorem c_X11_readNumber (l : Launch) (D : va_G) (cA : Nat → ClassId) (ad : Nat → Nat) (M : Mm) (x1 : Int32) (x2 : Int32) (x3 : Int32) {r : Int32} {M' : Mm} (hr : f_X11_readNumber x1 x2 x3 M = some (r, M')) : Met l yX11_readNumber wsX11_readNumber ({ frames := 1, cells := 0, slots := 0, locals := 22 }) (PcX D false cA ad M [.ref (ad 0), .int x1, .int x2, .int x3]) (QiX false D false cA ad r M') 0 0 (AX false ad) := by
  refine Met.ofW (cc := cX11_readNumber) (maxL := 6) (ret := (some .boolean)) (by decide) rfl ?_
  intro p e s m args below meth c s₁ B hml hv
  obtain ⟨hav, hP0, hK⟩ := hv
  have hx := B.exec
  have hb := B.bytes
  have hr0 := B.returns
  have hts := atoms_spec (ws := wsX11_readNumber) B.pre
  have hown : s.vm.findClass RX11 = some m.cls := findClass_of_methodNamed B.named
  have hlocks := B.notSynchronized
  have hW := xstart hP0
  have hi11 : ∀ w ∈ wsX110, w ∈ wsX11_readNumber := fun w h => List.mem_cons_of_mem _ (List.mem_append_right _ h)
  have hl := lv_entry ([.ref (ad 0), .int x1, .int x2, .int x3]) (n := 6) (Nat.le_of_ble_eq_true rfl)
  have hef := lg_entry_eq m ([.ref (ad 0), .int x1, .int x2, .int x3]) 6
  rw [← hav] at hef
  rw [hef]
  clear hef
  generalize (lg_sl ([.ref (ad 0), .int x1, .int x2, .int x3]) ++ List.replicate (6 - (lg_sl ([.ref (ad 0), .int x1, .int x2, .int x3])).length) Slot.unset).toArray = ls at hl ⊢
  have hl : lv_has ls 6 [(0, .ref (ad 0)), (1, .int x1), (2, .int x2), (3, .int x3)] := hl
  clear hP0
  unfold f_X11_readNumber at hr
  refine lv_aload_n hx hb dX11_readNumber_0 rfl (lv_at hl 0 rfl) ?_
  refine g11_21 hx hb hts hi11 hown hK hW (k := 0) rfl (hts _ (wm 1 rfl)) dX11_readNumber_1 ?_
  obtain ⟨x4_1, ex4_1, hr⟩ := lt1_e hr
  rw [← ex4_1]
  refine lv_istore (lv' := [(4, .int x4_1), (0, .ref (ad 0)), (1, .int x1), (2, .int x2), (3, .int x3)]) hx hb dX11_readNumber_4 hl (by decide) rfl (fun ls hl => ?_)
  refine lv_aload_n hx hb dX11_readNumber_6 rfl (lv_at hl 1 rfl) ?_
  refine g11_23 hx hb hts hi11 hown hK hW (k := 0) rfl (hts _ (wm 2 rfl)) dX11_readNumber_7 ?_
  refine lv_iload_n hx hb dX11_readNumber_10 rfl (lv_at hl 2 rfl) ?_
  refine lv_iconst (v := (0 : Int32)) hx hb dX11_readNumber_11 (by decide) ?_
  obtain ⟨hn12, hr⟩ := chk_e hr
  obtain ⟨M_2, eM_2, hr⟩ := lt1_e hr
  refine xiast hx hb hK hW (k := 15) (t := 20) rfl (by decide) (by decide) rfl (n := 4) hn12 (jx := (ix x1)) rfl dX11_readNumber_12 (fun H locs hW => ?_)
  rw [← eM_2] at hW
  have hL13_1 : ∀ (n : Nat) (M_3 : Mm) (H : Heap) (locs : List Loc) (ls : Array Slot) (M_4 : Mm), Xw D false cA ad M_3 (AX false ad) s.heap H locs → lv_has ls 6 [(4, .int x4_1), (0, .ref (ad 0)), (1, .int x1), (2, .int x2), (3, .int x3)] → f_X11_readNumber_L13 x1 x4_1 n M_3 = some M_4 → (∀ (H : Heap) (locs : List Loc) (ls : Array Slot), Xw D false cA ad M_4 (AX false ad) s.heap H locs → lv_has ls 6 [(4, .int x4_1), (0, .ref (ad 0)), (1, .int x1), (2, .int x2), (3, .int x3)] → W p l e (headSpec wsX11_readNumber { frames := 1, cells := 0, slots := 0, locals := 22 }).room s m args below meth c H locs 0 0 (MQ below (QiX false D false cA ad r M') args s 0 0 (AX false ad)) (F0 m 96 ls [])) → W p l e (headSpec wsX11_readNumber { frames := 1, cells := 0, slots := 0, locals := 22 }).room s m args below meth c H locs 0 0 (MQ below (QiX false D false cA ad r M') args s 0 0 (AX false ad)) (F0 m 13 ls []) := by
    intro n
    induction n with
    | zero =>
      intro M_3 H locs ls M_4 hW hl hr hk
      exact absurd hr (by simp [f_X11_readNumber_L13])
    | succ n ih =>
      intro M_3 H locs ls M_4 hW hl hr hk
      rw [f_X11_readNumber_L13] at hr
      refine lv_aload_n hx hb dX11_readNumber_13 rfl (lv_at hl 1 rfl) ?_
      obtain ⟨r_5, hc14, hr⟩ := ob1_e hr
      refine xk_i (va_runV (As := []) (rest := []) ⟨hx, hb, hml, hown, hts⟩ (c_X11_here l D cA ad M_3 hc14) (cwV 0 hts gX11_readNumber_X11_here rfl rfl rfl (by decide +kernel) ⟨Nat.le_of_ble_eq_true rfl, Nat.le_of_ble_eq_true rfl⟩) (xpreV hK hW (k := 0) rfl (by decide) rfl) rfl rfl hl.1 rfl (lv_room (Nat.le_of_ble_eq_true rfl)) dX11_readNumber_14 ⟨Nat.le_of_ble_eq_true rfl, Nat.le_of_ble_eq_true rfl⟩) hW (fun H locs hW => ?_)
      refine lv_bipush (v := (48 : Int32)) hx hb dX11_readNumber_17 (by decide) ?_
      refine lv_bipush (v := (57 : Int32)) hx hb dX11_readNumber_19 (by decide) ?_
      obtain ⟨r_6, hc21, hr⟩ := ob1_e hr
      refine xk_i (va_runS (As := [.int r_5, .int (48 : Int32), .int (57 : Int32)]) (rest := []) ⟨hx, hb, hml, hown, hts⟩ (c_X11_in l D cA ad M_3 r_5 (48 : Int32) (57 : Int32) hc21) (va_cwS 3 hts gX11_readNumber_X11_in rfl rfl rfl (by decide +kernel) ⟨Nat.le_of_ble_eq_true rfl, Nat.le_of_ble_eq_true rfl⟩) (xpreS hK hW) rfl rfl hl.1 rfl (lv_room (Nat.le_of_ble_eq_true rfl)) dX11_readNumber_21 ⟨Nat.le_of_ble_eq_true rfl, Nat.le_of_ble_eq_true rfl⟩) hW (fun H locs hW => ?_)
      refine lv_if_eq (tgt := 96) hx hb dX11_readNumber_24 (by decide) (fun c1 => ?_) (fun c1 => ?_)
      · have hr := br_p c1 hr
        have e1 := Option.some.inj hr
        subst e1
        exact hk _ _ _ hW (lv_sub hl [0, 1, 2, 3, 4] rfl)
      · have hr := br_n c1 hr
        refine lv_aload_n hx hb dX11_readNumber_27 rfl (lv_at hl 1 rfl) ?_
        refine g11_21 hx hb hts hi11 hown hK hW (k := 0) rfl (hts _ (wm 1 rfl)) dX11_readNumber_28 ?_
        refine lv_iload hx hb dX11_readNumber_31 (lv_at hl 0 rfl) ?_
        refine lv_bipush (v := (7 : Int32)) hx hb dX11_readNumber_33 (by decide) ?_
        refine lv_iadd hx hb dX11_readNumber_35 ?_
        refine lv_icmp_ge (tgt := 96) hx hb dX11_readNumber_36 (by decide) (fun c1 => ?_) (fun c1 => ?_)
        · have hr := br_p c1 hr
          have e1 := Option.some.inj hr
          subst e1
          exact hk _ _ _ hW (lv_sub hl [0, 1, 2, 3, 4] rfl)
        · have hr := br_n c1 hr
          refine lv_aload_n hx hb dX11_readNumber_39 rfl (lv_at hl 1 rfl) ?_
          refine g11_21 hx hb hts hi11 hown hK hW (k := 0) rfl (hts _ (wm 1 rfl)) dX11_readNumber_40 ?_
          refine lv_iload hx hb dX11_readNumber_43 (lv_at hl 0 rfl) ?_
          refine lv_icmp_eq (tgt := 60) hx hb dX11_readNumber_45 (by decide) (fun c1 => ?_) (fun c1 => ?_)
          · have hr := br_p c1 hr
            refine lv_aload_n hx hb dX11_readNumber_60 rfl (lv_at hl 1 rfl) ?_
            refine g11_23 hx hb hts hi11 hown hK hW (k := 0) rfl (hts _ (wm 2 rfl)) dX11_readNumber_61 ?_
            refine lv_iload_n hx hb dX11_readNumber_64 rfl (lv_at hl 2 rfl) ?_
            refine lv_bipush (v := (10 : Int32)) hx hb dX11_readNumber_65 (by decide) ?_
            refine lv_aload_n hx hb dX11_readNumber_67 rfl (lv_at hl 1 rfl) ?_
            refine g11_23 hx hb hts hi11 hown hK hW (k := 0) rfl (hts _ (wm 2 rfl)) dX11_readNumber_68 ?_
            refine lv_iload_n hx hb dX11_readNumber_71 rfl (lv_at hl 2 rfl) ?_
            obtain ⟨hn72, hr⟩ := chk_e hr
            refine xiald hx hb hK hW (k := 15) (t := 20) rfl (by decide) (by decide) rfl (n := 4) hn72 (jx := (ix x1)) rfl dX11_readNumber_72 ?_
            refine lv_imul hx hb dX11_readNumber_73 ?_
            refine lv_aload_n hx hb dX11_readNumber_74 rfl (lv_at hl 1 rfl) ?_
            obtain ⟨r_7, hc75, hr⟩ := ob1_e hr
            refine xk_i (va_runV (As := []) (rest := [.int ((10 : Int32) * (gI M_3 15 (ix x1))), .int x1, .ref (ad 15)]) ⟨hx, hb, hml, hown, hts⟩ (c_X11_here l D cA ad M_3 hc75) (cwV 0 hts gX11_readNumber_X11_here rfl rfl rfl (by decide +kernel) ⟨Nat.le_of_ble_eq_true rfl, Nat.le_of_ble_eq_true rfl⟩) (xpreV hK hW (k := 0) rfl (by decide) rfl) rfl rfl hl.1 rfl (lv_room (Nat.le_of_ble_eq_true rfl)) dX11_readNumber_75 ⟨Nat.le_of_ble_eq_true rfl, Nat.le_of_ble_eq_true rfl⟩) hW (fun H locs hW => ?_)
            refine lv_iadd hx hb dX11_readNumber_78 ?_
            refine lv_bipush (v := (48 : Int32)) hx hb dX11_readNumber_79 (by decide) ?_
            refine lv_isub hx hb dX11_readNumber_81 ?_
            obtain ⟨hn82, hr⟩ := chk_e hr
            obtain ⟨M_8, eM_8, hr⟩ := lt1_e hr
            refine xiast hx hb hK hW (k := 15) (t := 20) rfl (by decide) (by decide) rfl (n := 4) hn82 (jx := (ix x1)) rfl dX11_readNumber_82 (fun H locs hW => ?_)
            rw [← eM_8] at hW
            refine lv_aload_n hx hb dX11_readNumber_83 rfl (lv_at hl 1 rfl) ?_
            refine lv_dup hx hb dX11_readNumber_84 rfl ?_
            refine g11_21 hx hb hts hi11 hown hK hW (k := 0) rfl (hts _ (wm 1 rfl)) dX11_readNumber_85 ?_
            refine lv_iconst (v := (1 : Int32)) hx hb dX11_readNumber_88 (by decide) ?_
            refine lv_iadd hx hb dX11_readNumber_89 ?_
            obtain ⟨M_9, eM_9, hr⟩ := lt1_e hr
            refine p11_21 hx hb hts hi11 hown hK hW (k := 0) rfl (hts _ (wm 1 rfl)) dX11_readNumber_90 (fun H locs hW => ?_)
            rw [← eM_9] at hW
            refine lv_goto (tgt := 13) hx hb dX11_readNumber_93 (by decide) ?_
            exact ih M_9 _ _ _ _ hW (lv_sub hl [0, 1, 2, 3, 4] rfl) hr hk
          · have hr := br_n c1 hr
            refine lv_aload_n hx hb dX11_readNumber_48 rfl (lv_at hl 1 rfl) ?_
            refine g11_8 hx hb hts hi11 hown hK hW (k := 0) rfl (hts _ (wm 3 rfl)) dX11_readNumber_49 ?_
            refine lv_iload hx hb dX11_readNumber_52 (lv_at hl 0 rfl) ?_
            obtain ⟨hn54, hr⟩ := chk_e hr
            refine xiald hx hb hK hW (k := 8) (t := 23) rfl (by decide) (by decide) rfl (n := 100) hn54 (jx := (ix x4_1)) rfl dX11_readNumber_54 ?_
            refine lv_bipush (v := (48 : Int32)) hx hb dX11_readNumber_55 (by decide) ?_
            refine lv_icmp_eq (tgt := 96) hx hb dX11_readNumber_57 (by decide) (fun c1 => ?_) (fun c1 => ?_)
            · have hr := br_p c1 hr
              have e1 := Option.some.inj hr
              subst e1
              exact hk _ _ _ hW (lv_sub hl [0, 1, 2, 3, 4] rfl)
            · have hr := br_n c1 hr
              refine lv_aload_n hx hb dX11_readNumber_60 rfl (lv_at hl 1 rfl) ?_
              refine g11_23 hx hb hts hi11 hown hK hW (k := 0) rfl (hts _ (wm 2 rfl)) dX11_readNumber_61 ?_
              refine lv_iload_n hx hb dX11_readNumber_64 rfl (lv_at hl 2 rfl) ?_
              refine lv_bipush (v := (10 : Int32)) hx hb dX11_readNumber_65 (by decide) ?_
              refine lv_aload_n hx hb dX11_readNumber_67 rfl (lv_at hl 1 rfl) ?_
              refine g11_23 hx hb hts hi11 hown hK hW (k := 0) rfl (hts _ (wm 2 rfl)) dX11_readNumber_68 ?_
              refine lv_iload_n hx hb dX11_readNumber_71 rfl (lv_at hl 2 rfl) ?_
              obtain ⟨hn72, hr⟩ := chk_e hr
              refine xiald hx hb hK hW (k := 15) (t := 20) rfl (by decide) (by decide) rfl (n := 4) hn72 (jx := (ix x1)) rfl dX11_readNumber_72 ?_
              refine lv_imul hx hb dX11_readNumber_73 ?_
              refine lv_aload_n hx hb dX11_readNumber_74 rfl (lv_at hl 1 rfl) ?_
              obtain ⟨r_10, hc75, hr⟩ := ob1_e hr
              refine xk_i (va_runV (As := []) (rest := [.int ((10 : Int32) * (gI M_3 15 (ix x1))), .int x1, .ref (ad 15)]) ⟨hx, hb, hml, hown, hts⟩ (c_X11_here l D cA ad M_3 hc75) (cwV 0 hts gX11_readNumber_X11_here rfl rfl rfl (by decide +kernel) ⟨Nat.le_of_ble_eq_true rfl, Nat.le_of_ble_eq_true rfl⟩) (xpreV hK hW (k := 0) rfl (by decide) rfl) rfl rfl hl.1 rfl (lv_room (Nat.le_of_ble_eq_true rfl)) dX11_readNumber_75 ⟨Nat.le_of_ble_eq_true rfl, Nat.le_of_ble_eq_true rfl⟩) hW (fun H locs hW => ?_)
              refine lv_iadd hx hb dX11_readNumber_78 ?_
              refine lv_bipush (v := (48 : Int32)) hx hb dX11_readNumber_79 (by decide) ?_
              refine lv_isub hx hb dX11_readNumber_81 ?_
              obtain ⟨hn82, hr⟩ := chk_e hr
              obtain ⟨M_11, eM_11, hr⟩ := lt1_e hr
              refine xiast hx hb hK hW (k := 15) (t := 20) rfl (by decide) (by decide) rfl (n := 4) hn82 (jx := (ix x1)) rfl dX11_readNumber_82 (fun H locs hW => ?_)
              rw [← eM_11] at hW
              refine lv_aload_n hx hb dX11_readNumber_83 rfl (lv_at hl 1 rfl) ?_
              refine lv_dup hx hb dX11_readNumber_84 rfl ?_
              refine g11_21 hx hb hts hi11 hown hK hW (k := 0) rfl (hts _ (wm 1 rfl)) dX11_readNumber_85 ?_
              refine lv_iconst (v := (1 : Int32)) hx hb dX11_readNumber_88 (by decide) ?_
              refine lv_iadd hx hb dX11_readNumber_89 ?_
              obtain ⟨M_12, eM_12, hr⟩ := lt1_e hr
              refine p11_21 hx hb hts hi11 hown hK hW (k := 0) rfl (hts _ (wm 1 rfl)) dX11_readNumber_90 (fun H locs hW => ?_)
              rw [← eM_12] at hW
              refine lv_goto (tgt := 13) hx hb dX11_readNumber_93 (by decide) ?_
              exact ih M_12 _ _ _ _ hW (lv_sub hl [0, 1, 2, 3, 4] rfl) hr hk
  obtain ⟨M_4, hr, hr3⟩ := ob1_e hr
  refine hL13_1 1000 M_2 _ _ _ M_4 hW (lv_sub hl [0, 1, 2, 3, 4] rfl) hr (fun H locs ls hW hl => ?_)
  clear hr
  have hr := hr3
  refine lv_aload_n hx hb dX11_readNumber_96 rfl (lv_at hl 1 rfl) ?_
  refine g11_21 hx hb hts hi11 hown hK hW (k := 0) rfl (hts _ (wm 1 rfl)) dX11_readNumber_97 ?_
  refine lv_iload hx hb dX11_readNumber_100 (lv_at hl 0 rfl) ?_
  obtain ⟨y_13, hr, hr3⟩ := ob1_e hr
  have hj124_13 : ∀ (H : Heap) (locs : List Loc) (ls : Array Slot), Xw D false cA ad M_4 (AX false ad) s.heap H locs → lv_has ls 6 [(4, .int x4_1), (0, .ref (ad 0))] → W p l e (headSpec wsX11_readNumber { frames := 1, cells := 0, slots := 0, locals := 22 }).room s m args below meth c H locs 0 0 (MQ below (QiX false D false cA ad r M') args s 0 0 (AX false ad)) (F0 m 124 ls [.int y_13]) := by
    intro H locs ls hW hl
    have hr := hr3
    refine lv_istore (lv' := [(5, .int y_13), (4, .int x4_1), (0, .ref (ad 0))]) hx hb dX11_readNumber_124 hl (by decide) rfl (fun ls hl => ?_)
    refine lv_aload_n hx hb dX11_readNumber_126 rfl (lv_at hl 2 rfl) ?_
    refine lv_iload hx hb dX11_readNumber_127 (lv_at hl 0 rfl) ?_
    obtain ⟨y_15, hr, hr3⟩ := ob1_e hr
    have hj141_15 : ∀ (H : Heap) (locs : List Loc) (ls : Array Slot), Xw D false cA ad M_4 (AX false ad) s.heap H locs → lv_has ls 6 [(5, .int y_13)] → W p l e (headSpec wsX11_readNumber { frames := 1, cells := 0, slots := 0, locals := 22 }).room s m args below meth c H locs 0 0 (MQ below (QiX false D false cA ad r M') args s 0 0 (AX false ad)) (F0 m 141 ls [.int y_15, .ref (ad 0)]) := by
      intro H locs ls hW hl
      have hr := hr3
      obtain ⟨M_16, eM_16, hr⟩ := lt1_e hr
      refine p11_21 hx hb hts hi11 hown hK hW (k := 0) rfl (hts _ (wm 1 rfl)) dX11_readNumber_141 (fun H locs hW => ?_)
      rw [← eM_16] at hW
      refine lv_iload hx hb dX11_readNumber_144 (lv_at hl 0 rfl) ?_
      obtain ⟨hz146, hr⟩ := chk_e hr
      obtain ⟨e1, e2⟩ := Prod.mk.inj (Option.some.inj hr)
      rw [← e1, ← e2]
      exact xzret hx hb hr0 hlocks hW adR_rf hz146 dX11_readNumber_146
    clear hr3
    refine lv_if_eq (tgt := 139) hx hb dX11_readNumber_129 (by decide) (fun c1 => ?_) (fun c1 => ?_)
    · have hr := br_p c1 hr
      refine lv_iload hx hb dX11_readNumber_139 (lv_at hl 1 rfl) ?_
      have e1 := Option.some.inj hr
      subst e1
      exact hj141_15 _ _ _ hW (lv_sub hl [0] rfl)
    · have hr := br_n c1 hr
      refine lv_aload_n hx hb dX11_readNumber_132 rfl (lv_at hl 2 rfl) ?_
      refine g11_21 hx hb hts hi11 hown hK hW (k := 0) rfl (hts _ (wm 1 rfl)) dX11_readNumber_133 ?_
      refine lv_goto (tgt := 141) hx hb dX11_readNumber_136 (by decide) ?_
      have e1 := Option.some.inj hr
      subst e1
      exact hj141_15 _ _ _ hW (lv_sub hl [0] rfl)
  clear hr3
  refine lv_icmp_le (tgt := 123) hx hb dX11_readNumber_102 (by decide) (fun c1 => ?_) (fun c1 => ?_)
  · have hr := br_p c1 hr
    refine lv_iconst (v := (0 : Int32)) hx hb dX11_readNumber_123 (by decide) ?_
    have e1 := Option.some.inj hr
    subst e1
    exact hj124_13 _ _ _ hW (lv_sub hl [0, 1] rfl)
  · have hr := br_n c1 hr
    refine lv_aload_n hx hb dX11_readNumber_105 rfl (lv_at hl 1 rfl) ?_
    refine g11_23 hx hb hts hi11 hown hK hW (k := 0) rfl (hts _ (wm 2 rfl)) dX11_readNumber_106 ?_
    refine lv_iload_n hx hb dX11_readNumber_109 rfl (lv_at hl 2 rfl) ?_
    obtain ⟨hn110, hr⟩ := chk_e hr
    refine xiald hx hb hK hW (k := 15) (t := 20) rfl (by decide) (by decide) rfl (n := 4) hn110 (jx := (ix x1)) rfl dX11_readNumber_110 ?_
    refine lv_iload_n hx hb dX11_readNumber_111 rfl (lv_at hl 3 rfl) ?_
    refine lv_iload_n hx hb dX11_readNumber_112 rfl (lv_at hl 4 rfl) ?_
    obtain ⟨r_14, hc113, hr⟩ := ob1_e hr
    refine xk_i (va_runS (As := [.int (gI M_4 15 (ix x1)), .int x2, .int x3]) (rest := []) ⟨hx, hb, hml, hown, hts⟩ (c_X11_in l D cA ad M_4 (gI M_4 15 (ix x1)) x2 x3 hc113) (va_cwS 3 hts gX11_readNumber_X11_in rfl rfl rfl (by decide +kernel) ⟨Nat.le_of_ble_eq_true rfl, Nat.le_of_ble_eq_true rfl⟩) (xpreS hK hW) rfl rfl hl.1 rfl (lv_room (Nat.le_of_ble_eq_true rfl)) dX11_readNumber_113 ⟨Nat.le_of_ble_eq_true rfl, Nat.le_of_ble_eq_true rfl⟩) hW (fun H locs hW => ?_)
    refine lv_if_eq (tgt := 123) hx hb dX11_readNumber_116 (by decide) (fun c1 => ?_) (fun c1 => ?_)
    · have hr := br_p c1 hr
      refine lv_iconst (v := (0 : Int32)) hx hb dX11_readNumber_123 (by decide) ?_
      have e1 := Option.some.inj hr
      subst e1
      exact hj124_13 _ _ _ hW (lv_sub hl [0, 1] rfl)
    · have hr := br_n c1 hr
      refine lv_iconst (v := (1 : Int32)) hx hb dX11_readNumber_119 (by decide) ?_
      refine lv_goto (tgt := 124) hx hb dX11_readNumber_120 (by decide) ?_
      have e1 := Option.some.inj hr
      subst e1
      exact hj124_13 _ _ _ hW (lv_sub hl [0, 1] rfl)

set_option maxHeartbeats 4000000 in
set_option maxRecDepth 100000 in
theorem c_X11_in (l : Launch) (D : va_G) (cA : Nat → ClassId) (ad : Nat → Nat) (M : Mm) (x0 : Int32) (x1 : Int32) (x2 : Int32) {r : Int32} (hr : f_X11_in x0 x1 x2 M = some r) : Met l yX11_in wsX11_in ({ frames := 0, cells := 0, slots := 0, locals := 0 }) (PcX D false cA ad M [.int x0, .int x1, .int x2]) (QiX false D false cA ad r M) 0 0 (AX false ad) := by
  refine Met.ofW (cc := cX11_in) (maxL := 3) (ret := (some .boolean)) (by decide) rfl ?_
  intro p e s m args below meth c s₁ B hml hv
  obtain ⟨hav, hP0, hK⟩ := hv
  have hx := B.exec
  have hb := B.bytes
  have hr0 := B.returns
  have hts := atoms_spec (ws := wsX11_in) B.pre
  have hown : s.vm.findClass RX11 = some m.cls := findClass_of_methodNamed B.named
  have hlocks := B.notSynchronized
  have hW := xstart hP0
  have hl := lv_entry ([.int x0, .int x1, .int x2]) (n := 3) (Nat.le_of_ble_eq_true rfl)
  have hef := lg_entry_eq m ([.int x0, .int x1, .int x2]) 3
  rw [← hav] at hef
  rw [hef]
  clear hef
  generalize (lg_sl ([.int x0, .int x1, .int x2]) ++ List.replicate (3 - (lg_sl ([.int x0, .int x1, .int x2])).length) Slot.unset).toArray = ls at hl ⊢
  have hl : lv_has ls 3 [(0, .int x0), (1, .int x1), (2, .int x2)] := hl
  clear hP0
  unfold f_X11_in at hr
  refine lv_iload_n hx hb dX11_in_0 rfl (lv_at hl 0 rfl) ?_
  refine lv_iload_n hx hb dX11_in_1 rfl (lv_at hl 1 rfl) ?_
  refine lv_icmp_lt (tgt := 14) hx hb dX11_in_2 (by decide) (fun c1 => ?_) (fun c1 => ?_)
  · have hr := br_p c1 hr
    refine lv_iconst (v := (0 : Int32)) hx hb dX11_in_14 (by decide) ?_
    rw [← Option.some.inj hr]
    exact xzret hx hb hr0 hlocks hW adR_rf (by decide) dX11_in_15
  · have hr := br_n c1 hr
    refine lv_iload_n hx hb dX11_in_5 rfl (lv_at hl 0 rfl) ?_
    refine lv_iload_n hx hb dX11_in_6 rfl (lv_at hl 2 rfl) ?_
    refine lv_icmp_gt (tgt := 14) hx hb dX11_in_7 (by decide) (fun c1 => ?_) (fun c1 => ?_)
    · have hr := br_p c1 hr
      refine lv_iconst (v := (0 : Int32)) hx hb dX11_in_14 (by decide) ?_
      rw [← Option.some.inj hr]
      exact xzret hx hb hr0 hlocks hW adR_rf (by decide) dX11_in_15
    · have hr := br_n c1 hr
      refine lv_iconst (v := (1 : Int32)) hx hb dX11_in_10 (by decide) ?_
      refine lv_goto (tgt := 15) hx hb dX11_in_11 (by decide) ?_
      rw [← Option.some.inj hr]
      exact xzret hx hb hr0 hlocks hW adR_rf (by decide) dX11_in_15

set_option maxHeartbeats 4000000 in
set_option maxRecDepth 100000 in
theorem c_X11_records (l : Launch) (D : va_G) (cA : Nat → ClassId) (ad : Nat → Nat) (M : Mm) {M' : Mm} (hr : f_X11_records M = some M') : Met l yX11_records wsX11_records ({ frames := 0, cells := 0, slots := 0, locals := 0 }) (PcX D false cA ad M [.ref (ad 0)]) (QvX false D false cA ad M') 0 0 (AX false ad) := by
  refine Met.ofW (cc := cX11_records) (maxL := 2) (ret := none) (by decide) rfl ?_
  intro p e s m args below meth c s₁ B hml hv
  obtain ⟨hav, hP0, hK⟩ := hv
  have hx := B.exec
  have hb := B.bytes
  have hr0 := B.returns
  have hts := atoms_spec (ws := wsX11_records) B.pre
  have hown : s.vm.findClass RX11 = some m.cls := findClass_of_methodNamed B.named
  have hlocks := B.notSynchronized
  have hW := xstart hP0
  have hi11 : ∀ w ∈ wsX110, w ∈ wsX11_records := fun w h => List.mem_cons_of_mem _ (List.mem_append_right _ h)
  have hl := lv_entry ([.ref (ad 0)]) (n := 2) (Nat.le_of_ble_eq_true rfl)
  have hef := lg_entry_eq m ([.ref (ad 0)]) 2
  rw [← hav] at hef
  rw [hef]
  clear hef
  generalize (lg_sl ([.ref (ad 0)]) ++ List.replicate (2 - (lg_sl ([.ref (ad 0)])).length) Slot.unset).toArray = ls at hl ⊢
  have hl : lv_has ls 2 [(0, .ref (ad 0))] := hl
  clear hP0
  unfold f_X11_records at hr
  refine lv_aload_n hx hb dX11_records_0 rfl (lv_at hl 0 rfl) ?_
  refine g11_4 hx hb hts hi11 hown hK hW (k := 0) rfl (hts _ (wm 1 rfl)) dX11_records_1 ?_
  refine lv_iconst (v := (5 : Int32)) hx hb dX11_records_4 (by decide) ?_
  obtain ⟨M_1, hr, hr3⟩ := ob1_e hr
  have hj77_1 : ∀ (H : Heap) (locs : List Loc) (ls : Array Slot), Xw D false cA ad M_1 (AX false ad) s.heap H locs → lv_has ls 2 [(0, .ref (ad 0))] → W p l e (headSpec wsX11_records { frames := 0, cells := 0, slots := 0, locals := 0 }).room s m args below meth c H locs 0 0 (MQ below (QvX false D false cA ad M') args s 0 0 (AX false ad)) (F0 m 77 ls []) := by
    intro H locs ls hW hl
    have hr := hr3
    refine lv_iconst (v := (0 : Int32)) hx hb dX11_records_77 (by decide) ?_
    refine lv_istore_n (lv' := [(1, .int (0 : Int32)), (0, .ref (ad 0))]) hx hb dX11_records_78 rfl hl (by decide) rfl (fun ls hl => ?_)
    have hL79_3 : ∀ (n : Nat) (x1_13 : Int32) (M_14 : Mm) (H : Heap) (locs : List Loc) (ls : Array Slot) (M_15 : Mm), Xw D false cA ad M_14 (AX false ad) s.heap H locs → lv_has ls 2 [(0, .ref (ad 0)), (1, .int x1_13)] → f_X11_records_L79 n x1_13 M_14 = some M_15 → (∀ (H : Heap) (locs : List Loc) (ls : Array Slot), Xw D false cA ad M_15 (AX false ad) s.heap H locs → lv_has ls 2 [(0, .ref (ad 0))] → W p l e (headSpec wsX11_records { frames := 0, cells := 0, slots := 0, locals := 0 }).room s m args below meth c H locs 0 0 (MQ below (QvX false D false cA ad M') args s 0 0 (AX false ad)) (F0 m 113 ls [])) → W p l e (headSpec wsX11_records { frames := 0, cells := 0, slots := 0, locals := 0 }).room s m args below meth c H locs 0 0 (MQ below (QvX false D false cA ad M') args s 0 0 (AX false ad)) (F0 m 79 ls []) := by
      intro n
      induction n with
      | zero =>
        intro x1_13 M_14 H locs ls M_15 hW hl hr hk
        exact absurd hr (by simp [f_X11_records_L79])
      | succ n ih =>
        intro x1_13 M_14 H locs ls M_15 hW hl hr hk
        rw [f_X11_records_L79] at hr
        refine lv_iload_n hx hb dX11_records_79 rfl (lv_at hl 1 rfl) ?_
        refine lv_sipush (v := (159 : Int32)) hx hb dX11_records_80 (by decide) ?_
        refine lv_icmp_ge (tgt := 113) hx hb dX11_records_83 (by decide) (fun c1 => ?_) (fun c1 => ?_)
        · have hr := br_p c1 hr
          have e1 := Option.some.inj hr
          subst e1
          exact hk _ _ _ hW (lv_sub hl [0] rfl)
        · have hr := br_n c1 hr
          refine lv_aload_n hx hb dX11_records_86 rfl (lv_at hl 0 rfl) ?_
          refine g11_2 hx hb hts hi11 hown hK hW (k := 0) rfl (hts _ (wm 2 rfl)) dX11_records_87 ?_
          refine lv_sipush (v := (159 : Int32)) hx hb dX11_records_90 (by decide) ?_
          refine lv_aload_n hx hb dX11_records_93 rfl (lv_at hl 0 rfl) ?_
          refine g11_4 hx hb hts hi11 hown hK hW (k := 0) rfl (hts _ (wm 1 rfl)) dX11_records_94 ?_
          refine lv_imul hx hb dX11_records_97 ?_
          refine lv_iload_n hx hb dX11_records_98 rfl (lv_at hl 1 rfl) ?_
          refine lv_iadd hx hb dX11_records_99 ?_
          refine lv_aload_n hx hb dX11_records_100 rfl (lv_at hl 0 rfl) ?_
          refine g11_0 hx hb hts hi11 hown hK hW (k := 0) rfl (hts _ (wm 4 rfl)) dX11_records_101 ?_
          refine lv_iload_n hx hb dX11_records_104 rfl (lv_at hl 1 rfl) ?_
          obtain ⟨hn105, hr⟩ := chk_e hr
          refine xiald hx hb hK hW (k := 1) (t := 24) rfl (by decide) (by decide) rfl (n := 159) hn105 (jx := (ix x1_13)) rfl dX11_records_105 ?_
          obtain ⟨hn106, hr⟩ := chk_e hr
          obtain ⟨M_16, eM_16, hr⟩ := lt1_e hr
          refine xiast hx hb hK hW (k := 3) (t := 25) rfl (by decide) (by decide) rfl (n := 795) hn106 (jx := (ix (((159 : Int32) * (gI M_14 0 4)) + x1_13))) rfl dX11_records_106 (fun H locs hW => ?_)
          rw [← eM_16] at hW
          obtain ⟨x1_17, ex1_17, hr⟩ := lt1_e hr
          refine lv_iinc (v := x1_17) (lv' := [(1, .int x1_17), (0, .ref (ad 0))]) hx hb dX11_records_107 hl (k := 1) rfl (by rw [ex1_17]; rfl) (by decide) rfl (fun ls hl => ?_)
          refine lv_goto (tgt := 79) hx hb dX11_records_110 (by decide) ?_
          exact ih x1_17 M_16 _ _ _ _ hW (lv_sub hl [1, 0] rfl) hr hk
    obtain ⟨M_15, hr, hr3⟩ := ob1_e hr
    refine hL79_3 1000 (0 : Int32) M_1 _ _ _ M_15 hW (lv_sub hl [1, 0] rfl) hr (fun H locs ls hW hl => ?_)
    clear hr
    have hr := hr3
    refine lv_aload_n hx hb dX11_records_113 rfl (lv_at hl 0 rfl) ?_
    refine g11_3 hx hb hts hi11 hown hK hW (k := 0) rfl (hts _ (wm 3 rfl)) dX11_records_114 ?_
    refine lv_iconst (v := (2 : Int32)) hx hb dX11_records_117 (by decide) ?_
    refine lv_aload_n hx hb dX11_records_118 rfl (lv_at hl 0 rfl) ?_
    refine g11_4 hx hb hts hi11 hown hK hW (k := 0) rfl (hts _ (wm 1 rfl)) dX11_records_119 ?_
    refine lv_imul hx hb dX11_records_122 ?_
    refine lv_aload_n hx hb dX11_records_123 rfl (lv_at hl 0 rfl) ?_
    refine g11_1 hx hb hts hi11 hown hK hW (k := 0) rfl (hts _ (wm 5 rfl)) dX11_records_124 ?_
    refine lv_iconst (v := (0 : Int32)) hx hb dX11_records_127 (by decide) ?_
    refine xlald hx hb hK hW (k := 2) (t := 40) rfl (by decide) (by decide) rfl (n := 2) (by decide) (jx := 0) (by decide) dX11_records_128 ?_
    obtain ⟨hn129, hr⟩ := chk_e hr
    obtain ⟨M_18, eM_18, hr⟩ := lt1_e hr
    refine xlast hx hb hK hW (k := 4) (t := 41) rfl (by decide) (by decide) rfl (n := 10) hn129 (jx := (ix ((2 : Int32) * (gI M_15 0 4)))) rfl dX11_records_129 (fun H locs hW => ?_)
    rw [← eM_18] at hW
    refine lv_aload_n hx hb dX11_records_130 rfl (lv_at hl 0 rfl) ?_
    refine g11_3 hx hb hts hi11 hown hK hW (k := 0) rfl (hts _ (wm 3 rfl)) dX11_records_131 ?_
    refine lv_iconst (v := (2 : Int32)) hx hb dX11_records_134 (by decide) ?_
    refine lv_aload_n hx hb dX11_records_135 rfl (lv_at hl 0 rfl) ?_
    refine g11_4 hx hb hts hi11 hown hK hW (k := 0) rfl (hts _ (wm 1 rfl)) dX11_records_136 ?_
    refine lv_imul hx hb dX11_records_139 ?_
    refine lv_iconst (v := (1 : Int32)) hx hb dX11_records_140 (by decide) ?_
    refine lv_iadd hx hb dX11_records_141 ?_
    refine lv_aload_n hx hb dX11_records_142 rfl (lv_at hl 0 rfl) ?_
    refine g11_1 hx hb hts hi11 hown hK hW (k := 0) rfl (hts _ (wm 5 rfl)) dX11_records_143 ?_
    refine lv_iconst (v := (1 : Int32)) hx hb dX11_records_146 (by decide) ?_
    refine xlald hx hb hK hW (k := 2) (t := 40) rfl (by decide) (by decide) rfl (n := 2) (by decide) (jx := 1) (by decide) dX11_records_147 ?_
    obtain ⟨hn148, hr⟩ := chk_e hr
    obtain ⟨M_19, eM_19, hr⟩ := lt1_e hr
    refine xlast hx hb hK hW (k := 4) (t := 41) rfl (by decide) (by decide) rfl (n := 10) hn148 (jx := (ix (((2 : Int32) * (gI M_18 0 4)) + (1 : Int32)))) rfl dX11_records_148 (fun H locs hW => ?_)
    rw [← eM_19] at hW
    refine lv_aload_n hx hb dX11_records_149 rfl (lv_at hl 0 rfl) ?_
    refine lv_dup hx hb dX11_records_150 rfl ?_
    refine g11_4 hx hb hts hi11 hown hK hW (k := 0) rfl (hts _ (wm 1 rfl)) dX11_records_151 ?_
    refine lv_iconst (v := (1 : Int32)) hx hb dX11_records_154 (by decide) ?_
    refine lv_iadd hx hb dX11_records_155 ?_
    obtain ⟨M_20, eM_20, hr⟩ := lt1_e hr
    refine p11_4 hx hb hts hi11 hown hK hW (k := 0) rfl (hts _ (wm 1 rfl)) dX11_records_156 (fun H locs hW => ?_)
    rw [← eM_20] at hW
    rw [← Option.some.inj hr]
    exact xvret hx hb hr0 hlocks hW adR_rf dX11_records_159
  clear hr3
  refine lv_icmp_ne (tgt := 77) hx hb dX11_records_5 (by decide) (fun c1 => ?_) (fun c1 => ?_)
  · have hr := br_n c1 hr
    have e1 := Option.some.inj hr
    subst e1
    exact hj77_1 _ _ _ hW (lv_sub hl [0] rfl)
  · have hr := br_p c1 hr
    refine lv_iconst (v := (0 : Int32)) hx hb dX11_records_8 (by decide) ?_
    refine lv_istore_n (lv' := [(1, .int (0 : Int32)), (0, .ref (ad 0))]) hx hb dX11_records_9 rfl hl (by decide) rfl (fun ls hl => ?_)
    have hL10_1 : ∀ (n : Nat) (x1_2 : Int32) (M_3 : Mm) (H : Heap) (locs : List Loc) (ls : Array Slot) (M_4 : Mm), Xw D false cA ad M_3 (AX false ad) s.heap H locs → lv_has ls 2 [(0, .ref (ad 0)), (1, .int x1_2)] → f_X11_records_L10 n x1_2 M_3 = some M_4 → (∀ (H : Heap) (locs : List Loc) (ls : Array Slot), Xw D false cA ad M_4 (AX false ad) s.heap H locs → lv_has ls 2 [(0, .ref (ad 0))] → W p l e (headSpec wsX11_records { frames := 0, cells := 0, slots := 0, locals := 0 }).room s m args below meth c H locs 0 0 (MQ below (QvX false D false cA ad M') args s 0 0 (AX false ad)) (F0 m 39 ls [])) → W p l e (headSpec wsX11_records { frames := 0, cells := 0, slots := 0, locals := 0 }).room s m args below meth c H locs 0 0 (MQ below (QvX false D false cA ad M') args s 0 0 (AX false ad)) (F0 m 10 ls []) := by
      intro n
      induction n with
      | zero =>
        intro x1_2 M_3 H locs ls M_4 hW hl hr hk
        exact absurd hr (by simp [f_X11_records_L10])
      | succ n ih =>
        intro x1_2 M_3 H locs ls M_4 hW hl hr hk
        rw [f_X11_records_L10] at hr
        refine lv_iload_n hx hb dX11_records_10 rfl (lv_at hl 1 rfl) ?_
        refine lv_sipush (v := (636 : Int32)) hx hb dX11_records_11 (by decide) ?_
        refine lv_icmp_ge (tgt := 39) hx hb dX11_records_14 (by decide) (fun c1 => ?_) (fun c1 => ?_)
        · have hr := br_p c1 hr
          have e1 := Option.some.inj hr
          subst e1
          exact hk _ _ _ hW (lv_sub hl [0] rfl)
        · have hr := br_n c1 hr
          refine lv_aload_n hx hb dX11_records_17 rfl (lv_at hl 0 rfl) ?_
          refine g11_2 hx hb hts hi11 hown hK hW (k := 0) rfl (hts _ (wm 2 rfl)) dX11_records_18 ?_
          refine lv_iload_n hx hb dX11_records_21 rfl (lv_at hl 1 rfl) ?_
          refine lv_aload_n hx hb dX11_records_22 rfl (lv_at hl 0 rfl) ?_
          refine g11_2 hx hb hts hi11 hown hK hW (k := 0) rfl (hts _ (wm 2 rfl)) dX11_records_23 ?_
          refine lv_iload_n hx hb dX11_records_26 rfl (lv_at hl 1 rfl) ?_
          refine lv_sipush (v := (159 : Int32)) hx hb dX11_records_27 (by decide) ?_
          refine lv_iadd hx hb dX11_records_30 ?_
          obtain ⟨hn31, hr⟩ := chk_e hr
          refine xiald hx hb hK hW (k := 3) (t := 25) rfl (by decide) (by decide) rfl (n := 795) hn31 (jx := (ix (x1_2 + (159 : Int32)))) rfl dX11_records_31 ?_
          obtain ⟨hn32, hr⟩ := chk_e hr
          obtain ⟨M_5, eM_5, hr⟩ := lt1_e hr
          refine xiast hx hb hK hW (k := 3) (t := 25) rfl (by decide) (by decide) rfl (n := 795) hn32 (jx := (ix x1_2)) rfl dX11_records_32 (fun H locs hW => ?_)
          rw [← eM_5] at hW
          obtain ⟨x1_6, ex1_6, hr⟩ := lt1_e hr
          refine lv_iinc (v := x1_6) (lv' := [(1, .int x1_6), (0, .ref (ad 0))]) hx hb dX11_records_33 hl (k := 1) rfl (by rw [ex1_6]; rfl) (by decide) rfl (fun ls hl => ?_)
          refine lv_goto (tgt := 10) hx hb dX11_records_36 (by decide) ?_
          exact ih x1_6 M_5 _ _ _ _ hW (lv_sub hl [1, 0] rfl) hr hk
    obtain ⟨M_4, hr, hr3⟩ := ob1_e hr
    refine hL10_1 1000 (0 : Int32) M _ _ _ M_4 hW (lv_sub hl [1, 0] rfl) hr (fun H locs ls hW hl => ?_)
    clear hr
    have hr := hr3
    refine lv_iconst (v := (0 : Int32)) hx hb dX11_records_39 (by decide) ?_
    refine lv_istore_n (lv' := [(1, .int (0 : Int32)), (0, .ref (ad 0))]) hx hb dX11_records_40 rfl hl (by decide) rfl (fun ls hl => ?_)
    have hL41_2 : ∀ (n : Nat) (x1_7 : Int32) (M_8 : Mm) (H : Heap) (locs : List Loc) (ls : Array Slot) (M_9 : Mm), Xw D false cA ad M_8 (AX false ad) s.heap H locs → lv_has ls 2 [(0, .ref (ad 0)), (1, .int x1_7)] → f_X11_records_L41 n x1_7 M_8 = some M_9 → (∀ (H : Heap) (locs : List Loc) (ls : Array Slot), Xw D false cA ad M_9 (AX false ad) s.heap H locs → lv_has ls 2 [(0, .ref (ad 0))] → W p l e (headSpec wsX11_records { frames := 0, cells := 0, slots := 0, locals := 0 }).room s m args below meth c H locs 0 0 (MQ below (QvX false D false cA ad M') args s 0 0 (AX false ad)) (F0 m 67 ls [])) → W p l e (headSpec wsX11_records { frames := 0, cells := 0, slots := 0, locals := 0 }).room s m args below meth c H locs 0 0 (MQ below (QvX false D false cA ad M') args s 0 0 (AX false ad)) (F0 m 41 ls []) := by
      intro n
      induction n with
      | zero =>
        intro x1_7 M_8 H locs ls M_9 hW hl hr hk
        exact absurd hr (by simp [f_X11_records_L41])
      | succ n ih =>
        intro x1_7 M_8 H locs ls M_9 hW hl hr hk
        rw [f_X11_records_L41] at hr
        refine lv_iload_n hx hb dX11_records_41 rfl (lv_at hl 1 rfl) ?_
        refine lv_bipush (v := (8 : Int32)) hx hb dX11_records_42 (by decide) ?_
        refine lv_icmp_ge (tgt := 67) hx hb dX11_records_44 (by decide) (fun c1 => ?_) (fun c1 => ?_)
        · have hr := br_p c1 hr
          have e1 := Option.some.inj hr
          subst e1
          exact hk _ _ _ hW (lv_sub hl [0] rfl)
        · have hr := br_n c1 hr
          refine lv_aload_n hx hb dX11_records_47 rfl (lv_at hl 0 rfl) ?_
          refine g11_3 hx hb hts hi11 hown hK hW (k := 0) rfl (hts _ (wm 3 rfl)) dX11_records_48 ?_
          refine lv_iload_n hx hb dX11_records_51 rfl (lv_at hl 1 rfl) ?_
          refine lv_aload_n hx hb dX11_records_52 rfl (lv_at hl 0 rfl) ?_
          refine g11_3 hx hb hts hi11 hown hK hW (k := 0) rfl (hts _ (wm 3 rfl)) dX11_records_53 ?_
          refine lv_iload_n hx hb dX11_records_56 rfl (lv_at hl 1 rfl) ?_
          refine lv_iconst (v := (2 : Int32)) hx hb dX11_records_57 (by decide) ?_
          refine lv_iadd hx hb dX11_records_58 ?_
          obtain ⟨hn59, hr⟩ := chk_e hr
          refine xlald hx hb hK hW (k := 4) (t := 41) rfl (by decide) (by decide) rfl (n := 10) hn59 (jx := (ix (x1_7 + (2 : Int32)))) rfl dX11_records_59 ?_
          obtain ⟨hn60, hr⟩ := chk_e hr
          obtain ⟨M_10, eM_10, hr⟩ := lt1_e hr
          refine xlast hx hb hK hW (k := 4) (t := 41) rfl (by decide) (by decide) rfl (n := 10) hn60 (jx := (ix x1_7)) rfl dX11_records_60 (fun H locs hW => ?_)
          rw [← eM_10] at hW
          obtain ⟨x1_11, ex1_11, hr⟩ := lt1_e hr
          refine lv_iinc (v := x1_11) (lv' := [(1, .int x1_11), (0, .ref (ad 0))]) hx hb dX11_records_61 hl (k := 1) rfl (by rw [ex1_11]; rfl) (by decide) rfl (fun ls hl => ?_)
          refine lv_goto (tgt := 41) hx hb dX11_records_64 (by decide) ?_
          exact ih x1_11 M_10 _ _ _ _ hW (lv_sub hl [1, 0] rfl) hr hk
    obtain ⟨M_9, hr, hr3⟩ := ob1_e hr
    refine hL41_2 1000 (0 : Int32) M_4 _ _ _ M_9 hW (lv_sub hl [1, 0] rfl) hr (fun H locs ls hW hl => ?_)
    clear hr
    have hr := hr3
    refine lv_aload_n hx hb dX11_records_67 rfl (lv_at hl 0 rfl) ?_
    refine lv_dup hx hb dX11_records_68 rfl ?_
    refine g11_4 hx hb hts hi11 hown hK hW (k := 0) rfl (hts _ (wm 1 rfl)) dX11_records_69 ?_
    refine lv_iconst (v := (1 : Int32)) hx hb dX11_records_72 (by decide) ?_
    refine lv_isub hx hb dX11_records_73 ?_
    obtain ⟨M_12, eM_12, hr⟩ := lt1_e hr
    refine p11_4 hx hb hts hi11 hown hK hW (k := 0) rfl (hts _ (wm 1 rfl)) dX11_records_74 (fun H locs hW => ?_)
    rw [← eM_12] at hW
    have e1 := Option.some.inj hr
    subst e1
    exact hj77_1 _ _ _ hW (lv_sub hl [0] rfl)

set_option maxHeartbeats 4000000 in
set_option maxRecDepth 100000 in
theorem c_X11_isPath (l : Launch) (D : va_G) (cA : Nat → ClassId) (ad : Nat → Nat) (M : Mm) (x1 : Int32) {r : Int32} (hr : f_X11_isPath x1 M = some r) : Met l yX11_isPath wsX11_isPath ({ frames := 1, cells := 0, slots := 0, locals := 22 }) (PcX D false cA ad M [.ref (ad 0), .int x1]) (QiX false D false cA ad r M) 0 0 (AX false ad) := by
  refine Met.ofW (cc := cX11_isPath) (maxL := 2) (ret := (some .boolean)) (by decide) rfl ?_
  intro p e s m args below meth c s₁ B hml hv
  obtain ⟨hav, hP0, hK⟩ := hv
  have hx := B.exec
  have hb := B.bytes
  have hr0 := B.returns
  have hts := atoms_spec (ws := wsX11_isPath) B.pre
  have hown : s.vm.findClass RX11 = some m.cls := findClass_of_methodNamed B.named
  have hlocks := B.notSynchronized
  have hW := xstart hP0
  have hi11 : ∀ w ∈ wsX110, w ∈ wsX11_isPath := fun w h => List.mem_cons_of_mem _ (List.mem_append_right _ h)
  have hl := lv_entry ([.ref (ad 0), .int x1]) (n := 2) (Nat.le_of_ble_eq_true rfl)
  have hef := lg_entry_eq m ([.ref (ad 0), .int x1]) 2
  rw [← hav] at hef
  rw [hef]
  clear hef
  generalize (lg_sl ([.ref (ad 0), .int x1]) ++ List.replicate (2 - (lg_sl ([.ref (ad 0), .int x1])).length) Slot.unset).toArray = ls at hl ⊢
  have hl : lv_has ls 2 [(0, .ref (ad 0)), (1, .int x1)] := hl
  clear hP0
  unfold f_X11_isPath at hr
  refine lv_iload_n hx hb dX11_isPath_0 rfl (lv_at hl 1 rfl) ?_
  refine lv_iconst (v := (0 : Int32)) hx hb dX11_isPath_1 (by decide) ?_
  refine lv_aload_n hx hb dX11_isPath_2 rfl (lv_at hl 0 rfl) ?_
  refine g11_0 hx hb hts hi11 hown hK hW (k := 0) rfl (hts _ (wm 1 rfl)) dX11_isPath_3 ?_
  refine lv_bipush (v := (64 : Int32)) hx hb dX11_isPath_6 (by decide) ?_
  refine xiald hx hb hK hW (k := 1) (t := 24) rfl (by decide) (by decide) rfl (n := 159) (by decide) (jx := 64) (by decide) dX11_isPath_8 ?_
  refine lv_iconst (v := (1 : Int32)) hx hb dX11_isPath_9 (by decide) ?_
  refine lv_isub hx hb dX11_isPath_10 ?_
  obtain ⟨r_1, hc11, hr⟩ := ob1_e hr
  refine xk_i (va_runS (As := [.int x1, .int (0 : Int32), .int ((gI M 1 64) - (1 : Int32))]) (rest := []) ⟨hx, hb, hml, hown, hts⟩ (c_X11_in l D cA ad M x1 (0 : Int32) ((gI M 1 64) - (1 : Int32)) hc11) (va_cwS 3 hts gX11_isPath_X11_in rfl rfl rfl (by decide +kernel) ⟨Nat.le_of_ble_eq_true rfl, Nat.le_of_ble_eq_true rfl⟩) (xpreS hK hW) rfl rfl hl.1 rfl (lv_room (Nat.le_of_ble_eq_true rfl)) dX11_isPath_11 ⟨Nat.le_of_ble_eq_true rfl, Nat.le_of_ble_eq_true rfl⟩) hW (fun H locs hW => ?_)
  obtain ⟨hz14, hr⟩ := chk_e hr
  rw [← Option.some.inj hr]
  exact xzret hx hb hr0 hlocks hW adR_rf hz14 dX11_isPath_14

set_option maxHeartbeats 4000000 in
set_option maxRecDepth 100000 in
theorem c_X11_of (l : Launch) (D : va_G) (cA : Nat → ClassId) (ad : Nat → Nat) (M : Mm) (x1 : Int32) (x2 : Int32) {r : Int32} (hr : f_X11_of x1 x2 M = some r) : Met l yX11_of wsX11_of ({ frames := 0, cells := 0, slots := 0, locals := 0 }) (PcX D false cA ad M [.ref (ad 0), .int x1, .int x2]) (QiX false D false cA ad r M) 0 0 (AX false ad) := by
  refine Met.ofW (cc := cX11_of) (maxL := 3) (ret := (some .int)) (by decide) rfl ?_
  intro p e s m args below meth c s₁ B hml hv
  obtain ⟨hav, hP0, hK⟩ := hv
  have hx := B.exec
  have hb := B.bytes
  have hr0 := B.returns
  have hts := atoms_spec (ws := wsX11_of) B.pre
  have hown : s.vm.findClass RX11 = some m.cls := findClass_of_methodNamed B.named
  have hlocks := B.notSynchronized
  have hW := xstart hP0
  have hi11 : ∀ w ∈ wsX110, w ∈ wsX11_of := fun w h => List.mem_cons_of_mem _ (List.mem_append_right _ h)
  have hl := lv_entry ([.ref (ad 0), .int x1, .int x2]) (n := 3) (Nat.le_of_ble_eq_true rfl)
  have hef := lg_entry_eq m ([.ref (ad 0), .int x1, .int x2]) 3
  rw [← hav] at hef
  rw [hef]
  clear hef
  generalize (lg_sl ([.ref (ad 0), .int x1, .int x2]) ++ List.replicate (3 - (lg_sl ([.ref (ad 0), .int x1, .int x2])).length) Slot.unset).toArray = ls at hl ⊢
  have hl : lv_has ls 3 [(0, .ref (ad 0)), (1, .int x1), (2, .int x2)] := hl
  clear hP0
  unfold f_X11_of at hr
  refine lv_aload_n hx hb dX11_of_0 rfl (lv_at hl 0 rfl) ?_
  refine g11_0 hx hb hts hi11 hown hK hW (k := 0) rfl (hts _ (wm 1 rfl)) dX11_of_1 ?_
  refine lv_bipush (v := (16 : Int32)) hx hb dX11_of_4 (by decide) ?_
  refine lv_iload_n hx hb dX11_of_6 rfl (lv_at hl 1 rfl) ?_
  refine lv_imul hx hb dX11_of_7 ?_
  refine lv_iload_n hx hb dX11_of_8 rfl (lv_at hl 2 rfl) ?_
  refine lv_iadd hx hb dX11_of_9 ?_
  obtain ⟨hn10, hr⟩ := chk_e hr
  refine xiald hx hb hK hW (k := 1) (t := 24) rfl (by decide) (by decide) rfl (n := 159) hn10 (jx := (ix (((16 : Int32) * x1) + x2))) rfl dX11_of_10 ?_
  rw [← Option.some.inj hr]
  exact xiret hx hb hr0 hlocks hW adR_rf dX11_of_11

set_option maxHeartbeats 4000000 in
set_option maxRecDepth 100000 in
theorem c_X11_lay (l : Launch) (D : va_G) (cA : Nat → ClassId) (ad : Nat → Nat) (M : Mm) (x1 : Int32) (x2 : Int32) (x3 : Int32) {M' : Mm} (hr : f_X11_lay x1 x2 x3 M = some M') : Met l yX11_lay wsX11_lay ({ frames := 0, cells := 0, slots := 0, locals := 0 }) (PcX D false cA ad M [.ref (ad 0), .int x1, .int x2, .int x3]) (QvX false D false cA ad M') 0 0 (AX false ad) := by
  refine Met.ofW (cc := cX11_lay) (maxL := 4) (ret := none) (by decide) rfl ?_
  intro p e s m args below meth c s₁ B hml hv
  obtain ⟨hav, hP0, hK⟩ := hv
  have hx := B.exec
  have hb := B.bytes
  have hr0 := B.returns
  have hts := atoms_spec (ws := wsX11_lay) B.pre
  have hown : s.vm.findClass RX11 = some m.cls := findClass_of_methodNamed B.named
  have hlocks := B.notSynchronized
  have hW := xstart hP0
  have hi11 : ∀ w ∈ wsX110, w ∈ wsX11_lay := fun w h => List.mem_cons_of_mem _ (List.mem_append_right _ h)
  have hl := lv_entry ([.ref (ad 0), .int x1, .int x2, .int x3]) (n := 4) (Nat.le_of_ble_eq_true rfl)
  have hef := lg_entry_eq m ([.ref (ad 0), .int x1, .int x2, .int x3]) 4
  rw [← hav] at hef
  rw [hef]
  clear hef
  generalize (lg_sl ([.ref (ad 0), .int x1, .int x2, .int x3]) ++ List.replicate (4 - (lg_sl ([.ref (ad 0), .int x1, .int x2, .int x3])).length) Slot.unset).toArray = ls at hl ⊢
  have hl : lv_has ls 4 [(0, .ref (ad 0)), (1, .int x1), (2, .int x2), (3, .int x3)] := hl
  clear hP0
  unfold f_X11_lay at hr
  refine lv_aload_n hx hb dX11_lay_0 rfl (lv_at hl 0 rfl) ?_
  refine g11_0 hx hb hts hi11 hown hK hW (k := 0) rfl (hts _ (wm 1 rfl)) dX11_lay_1 ?_
  refine lv_bipush (v := (16 : Int32)) hx hb dX11_lay_4 (by decide) ?_
  refine lv_iload_n hx hb dX11_lay_6 rfl (lv_at hl 1 rfl) ?_
  refine lv_imul hx hb dX11_lay_7 ?_
  refine lv_iload_n hx hb dX11_lay_8 rfl (lv_at hl 2 rfl) ?_
  refine lv_iadd hx hb dX11_lay_9 ?_
  refine lv_iload_n hx hb dX11_lay_10 rfl (lv_at hl 3 rfl) ?_
  obtain ⟨hn11, hr⟩ := chk_e hr
  obtain ⟨M_1, eM_1, hr⟩ := lt1_e hr
  refine xiast hx hb hK hW (k := 1) (t := 24) rfl (by decide) (by decide) rfl (n := 159) hn11 (jx := (ix (((16 : Int32) * x1) + x2))) rfl dX11_lay_11 (fun H locs hW => ?_)
  rw [← eM_1] at hW
  rw [← Option.some.inj hr]
  exact xvret hx hb hr0 hlocks hW adR_rf dX11_lay_12

set_option maxHeartbeats 4000000 in
set_option maxRecDepth 100000 in
theorem c_X11_held (l : Launch) (D : va_G) (cA : Nat → ClassId) (ad : Nat → Nat) (M : Mm) (x0 : Int64) (x2 : Int64) {r : Int64} (hr : f_X11_held x0 x2 M = some r) : Met l yX11_held wsX11_held ({ frames := 0, cells := 0, slots := 0, locals := 0 }) (PcX D false cA ad M [.long x0, .long x2]) (QlX false D false cA ad r M) 0 0 (AX false ad) := by
  refine Met.ofW (cc := cX11_held) (maxL := 4) (ret := (some .long)) (by decide) rfl ?_
  intro p e s m args below meth c s₁ B hml hv
  obtain ⟨hav, hP0, hK⟩ := hv
  have hx := B.exec
  have hb := B.bytes
  have hr0 := B.returns
  have hts := atoms_spec (ws := wsX11_held) B.pre
  have hown : s.vm.findClass RX11 = some m.cls := findClass_of_methodNamed B.named
  have hlocks := B.notSynchronized
  have hW := xstart hP0
  have hl := lv_entry ([.long x0, .long x2]) (n := 4) (Nat.le_of_ble_eq_true rfl)
  have hef := lg_entry_eq m ([.long x0, .long x2]) 4
  rw [← hav] at hef
  rw [hef]
  clear hef
  generalize (lg_sl ([.long x0, .long x2]) ++ List.replicate (4 - (lg_sl ([.long x0, .long x2])).length) Slot.unset).toArray = ls at hl ⊢
  have hl : lv_has ls 4 [(0, .long x0), (2, .long x2)] := hl
  clear hP0
  unfold f_X11_held at hr
  refine lv_lload_n hx hb dX11_held_0 rfl (lv_at hl 0 rfl) ?_
  refine lv_lload_n hx hb dX11_held_1 rfl (lv_at hl 1 rfl) ?_
  refine xlc_le (tgt := 10) hx hb dX11_held_2 dX11_held_3 (by decide) (fun c1 => ?_) (fun c1 => ?_)
  · have hr := br_p c1 hr
    refine lv_lload_n hx hb dX11_held_10 rfl (lv_at hl 0 rfl) ?_
    refine lv_lload_n hx hb dX11_held_11 rfl (lv_at hl 1 rfl) ?_
    refine lv_lneg hx hb dX11_held_12 ?_
    refine xlc_ge (tgt := 22) hx hb dX11_held_13 dX11_held_14 (by decide) (fun c1 => ?_) (fun c1 => ?_)
    · have hr := br_p c1 hr
      refine lv_lload_n hx hb dX11_held_22 rfl (lv_at hl 0 rfl) ?_
      rw [← Option.some.inj hr]
      exact xlret hx hb hr0 hlocks hW adR_rf dX11_held_23
    · have hr := br_n c1 hr
      refine lv_lload_n hx hb dX11_held_17 rfl (lv_at hl 1 rfl) ?_
      refine lv_lneg hx hb dX11_held_18 ?_
      refine lv_goto (tgt := 23) hx hb dX11_held_19 (by decide) ?_
      rw [← Option.some.inj hr]
      exact xlret hx hb hr0 hlocks hW adR_rf dX11_held_23
  · have hr := br_n c1 hr
    refine lv_lload_n hx hb dX11_held_6 rfl (lv_at hl 1 rfl) ?_
    refine lv_goto (tgt := 23) hx hb dX11_held_7 (by decide) ?_
    rw [← Option.some.inj hr]
    exact xlret hx hb hr0 hlocks hW adR_rf dX11_held_23

set_option maxHeartbeats 4000000 in
set_option maxRecDepth 100000 in
theorem c_X11_addPath (l : Launch) (D : va_G) (cA : Nat → ClassId) (ad : Nat → Nat) (M : Mm) (x1 : Int32) (x2 : Int32) (x3 : Int32) (x4 : Int32) (x5 : Int32) {r : Int32} {M' : Mm} (hr : f_X11_addPath x1 x2 x3 x4 x5 M = some (r, M')) : Met l yX11_addPath wsX11_addPath ({ frames := 1, cells := 0, slots := 0, locals := 23 }) (PcX D false cA ad M [.ref (ad 0), .int x1, .int x2, .int x3, .int x4, .int x5]) (QiX false D false cA ad r M') 0 0 (AX false ad) := by
  refine Met.ofW (cc := cX11_addPath) (maxL := 9) (ret := (some .int)) (by decide) rfl ?_
  intro p e s m args below meth c s₁ B hml hv
  obtain ⟨hav, hP0, hK⟩ := hv
  have hx := B.exec
  have hb := B.bytes
  have hr0 := B.returns
  have hts := atoms_spec (ws := wsX11_addPath) B.pre
  have hown : s.vm.findClass RX11 = some m.cls := findClass_of_methodNamed B.named
  have hlocks := B.notSynchronized
  have hW := xstart hP0
  have hi11 : ∀ w ∈ wsX110, w ∈ wsX11_addPath := fun w h => List.mem_cons_of_mem _ (List.mem_append_right _ h)
  have hl := lv_entry ([.ref (ad 0), .int x1, .int x2, .int x3, .int x4, .int x5]) (n := 9) (Nat.le_of_ble_eq_true rfl)
  have hef := lg_entry_eq m ([.ref (ad 0), .int x1, .int x2, .int x3, .int x4, .int x5]) 9
  rw [← hav] at hef
  rw [hef]
  clear hef
  generalize (lg_sl ([.ref (ad 0), .int x1, .int x2, .int x3, .int x4, .int x5]) ++ List.replicate (9 - (lg_sl ([.ref (ad 0), .int x1, .int x2, .int x3, .int x4, .int x5])).length) Slot.unset).toArray = ls at hl ⊢
  have hl : lv_has ls 9 [(0, .ref (ad 0)), (1, .int x1), (2, .int x2), (3, .int x3), (4, .int x4), (5, .int x5)] := hl
  clear hP0
  unfold f_X11_addPath at hr
  refine lv_iload_n hx hb dX11_addPath_0 rfl (lv_at hl 1 rfl) ?_
  refine lv_bipush (v := (50 : Int32)) hx hb dX11_addPath_1 (by decide) ?_
  refine lv_sipush (v := (2000 : Int32)) hx hb dX11_addPath_3 (by decide) ?_
  obtain ⟨r_1, hc6, hr⟩ := ob1_e hr
  refine xk_i (va_runS (As := [.int x1, .int (50 : Int32), .int (2000 : Int32)]) (rest := []) ⟨hx, hb, hml, hown, hts⟩ (c_X11_in l D cA ad M x1 (50 : Int32) (2000 : Int32) hc6) (va_cwS 3 hts gX11_addPath_X11_in rfl rfl rfl (by decide +kernel) ⟨Nat.le_of_ble_eq_true rfl, Nat.le_of_ble_eq_true rfl⟩) (xpreS hK hW) rfl rfl hl.1 rfl (lv_room (Nat.le_of_ble_eq_true rfl)) dX11_addPath_6 ⟨Nat.le_of_ble_eq_true rfl, Nat.le_of_ble_eq_true rfl⟩) hW (fun H locs hW => ?_)
  obtain ⟨y_2, hr, hr3⟩ := ob1_e hr
  have hj63_2 : ∀ (H : Heap) (locs : List Loc) (ls : Array Slot), Xw D false cA ad M (AX false ad) s.heap H locs → lv_has ls 9 [(0, .ref (ad 0)), (1, .int x1), (2, .int x2), (3, .int x3), (4, .int x4), (5, .int x5)] → W p l e (headSpec wsX11_addPath { frames := 1, cells := 0, slots := 0, locals := 23 }).room s m args below meth c H locs 0 0 (MQ below (QiX false D false cA ad r M') args s 0 0 (AX false ad)) (F0 m 63 ls [.int y_2]) := by
    intro H locs ls hW hl
    have hr := hr3
    refine lv_istore (lv' := [(6, .int y_2), (0, .ref (ad 0)), (1, .int x1), (2, .int x2), (3, .int x3), (4, .int x4), (5, .int x5)]) hx hb dX11_addPath_63 hl (by decide) rfl (fun ls hl => ?_)
    refine lv_iload hx hb dX11_addPath_65 (lv_at hl 0 rfl) ?_
    refine lv_if_ne (tgt := 73) hx hb dX11_addPath_67 (by decide) (fun c1 => ?_) (fun c1 => ?_)
    · have hr := br_n c1 hr
      refine lv_aload_n hx hb dX11_addPath_73 rfl (lv_at hl 1 rfl) ?_
      refine g11_0 hx hb hts hi11 hown hK hW (k := 0) rfl (hts _ (wm 2 rfl)) dX11_addPath_74 ?_
      refine lv_bipush (v := (64 : Int32)) hx hb dX11_addPath_77 (by decide) ?_
      refine xiald hx hb hK hW (k := 1) (t := 24) rfl (by decide) (by decide) rfl (n := 159) (by decide) (jx := 64) (by decide) dX11_addPath_79 ?_
      refine lv_iconst (v := (4 : Int32)) hx hb dX11_addPath_80 (by decide) ?_
      refine lv_icmp_ne (tgt := 87) hx hb dX11_addPath_81 (by decide) (fun c1 => ?_) (fun c1 => ?_)
      · have hr := br_n c1 hr
        refine lv_aload_n hx hb dX11_addPath_87 rfl (lv_at hl 1 rfl) ?_
        obtain ⟨M_7, hc88, hr⟩ := ob1_e hr
        refine xk_v (va_runV (As := []) (rest := []) ⟨hx, hb, hml, hown, hts⟩ (c_X11_records l D cA ad M hc88) (cwV 0 hts gX11_addPath_X11_records rfl rfl rfl (by decide +kernel) ⟨Nat.le_of_ble_eq_true rfl, Nat.le_of_ble_eq_true rfl⟩) (xpreV hK hW (k := 0) rfl (by decide) rfl) rfl rfl hl.1 rfl (lv_room (Nat.le_of_ble_eq_true rfl)) dX11_addPath_88 ⟨Nat.le_of_ble_eq_true rfl, Nat.le_of_ble_eq_true rfl⟩) hW (fun H locs hW => ?_)
        refine lv_aload_n hx hb dX11_addPath_91 rfl (lv_at hl 1 rfl) ?_
        refine g11_0 hx hb hts hi11 hown hK hW (k := 0) rfl (hts _ (wm 2 rfl)) dX11_addPath_92 ?_
        refine lv_bipush (v := (64 : Int32)) hx hb dX11_addPath_95 (by decide) ?_
        refine xiald hx hb hK hW (k := 1) (t := 24) rfl (by decide) (by decide) rfl (n := 159) (by decide) (jx := 64) (by decide) dX11_addPath_97 ?_
        obtain ⟨x7_8, ex7_8, hr⟩ := lt1_e hr
        rw [← ex7_8]
        refine lv_istore (lv' := [(7, .int x7_8), (6, .int y_2), (0, .ref (ad 0)), (1, .int x1), (2, .int x2), (3, .int x3), (4, .int x4), (5, .int x5)]) hx hb dX11_addPath_98 hl (by decide) rfl (fun ls hl => ?_)
        refine lv_iconst (v := (0 : Int32)) hx hb dX11_addPath_100 (by decide) ?_
        refine lv_istore (lv' := [(8, .int (0 : Int32)), (7, .int x7_8), (6, .int y_2), (0, .ref (ad 0)), (1, .int x1), (2, .int x2), (3, .int x3), (4, .int x4), (5, .int x5)]) hx hb dX11_addPath_101 hl (by decide) rfl (fun ls hl => ?_)
        have hL103_1 : ∀ (n : Nat) (x8_9 : Int32) (M_10 : Mm) (H : Heap) (locs : List Loc) (ls : Array Slot) (M_11 : Mm), Xw D false cA ad M_10 (AX false ad) s.heap H locs → lv_has ls 9 [(7, .int x7_8), (0, .ref (ad 0)), (1, .int x1), (2, .int x2), (3, .int x3), (4, .int x4), (5, .int x5), (8, .int x8_9)] → f_X11_addPath_L103 x7_8 n x8_9 M_10 = some M_11 → (∀ (H : Heap) (locs : List Loc) (ls : Array Slot), Xw D false cA ad M_11 (AX false ad) s.heap H locs → lv_has ls 9 [(7, .int x7_8), (0, .ref (ad 0)), (1, .int x1), (2, .int x2), (3, .int x3), (4, .int x4), (5, .int x5)] → W p l e (headSpec wsX11_addPath { frames := 1, cells := 0, slots := 0, locals := 23 }).room s m args below meth c H locs 0 0 (MQ below (QiX false D false cA ad r M') args s 0 0 (AX false ad)) (F0 m 125 ls [])) → W p l e (headSpec wsX11_addPath { frames := 1, cells := 0, slots := 0, locals := 23 }).room s m args below meth c H locs 0 0 (MQ below (QiX false D false cA ad r M') args s 0 0 (AX false ad)) (F0 m 103 ls []) := by
          intro n
          induction n with
          | zero =>
            intro x8_9 M_10 H locs ls M_11 hW hl hr hk
            exact absurd hr (by simp [f_X11_addPath_L103])
          | succ n ih =>
            intro x8_9 M_10 H locs ls M_11 hW hl hr hk
            rw [f_X11_addPath_L103] at hr
            refine lv_iload hx hb dX11_addPath_103 (lv_at hl 7 rfl) ?_
            refine lv_bipush (v := (16 : Int32)) hx hb dX11_addPath_105 (by decide) ?_
            refine lv_icmp_ge (tgt := 125) hx hb dX11_addPath_107 (by decide) (fun c1 => ?_) (fun c1 => ?_)
            · have hr := br_p c1 hr
              have e1 := Option.some.inj hr
              subst e1
              exact hk _ _ _ hW (lv_sub hl [0, 1, 2, 3, 4, 5, 6] rfl)
            · have hr := br_n c1 hr
              refine lv_aload_n hx hb dX11_addPath_110 rfl (lv_at hl 1 rfl) ?_
              refine lv_iload hx hb dX11_addPath_111 (lv_at hl 0 rfl) ?_
              refine lv_iload hx hb dX11_addPath_113 (lv_at hl 7 rfl) ?_
              refine lv_iconst (v := (0 : Int32)) hx hb dX11_addPath_115 (by decide) ?_
              obtain ⟨M_12, hc116, hr⟩ := ob1_e hr
              refine xk_v (va_runV (As := [.int x7_8, .int x8_9, .int (0 : Int32)]) (rest := []) ⟨hx, hb, hml, hown, hts⟩ (c_X11_lay l D cA ad M_10 x7_8 x8_9 (0 : Int32) hc116) (cwV 3 hts gX11_addPath_X11_lay rfl rfl rfl (by decide +kernel) ⟨Nat.le_of_ble_eq_true rfl, Nat.le_of_ble_eq_true rfl⟩) (xpreV hK hW (k := 0) rfl (by decide) rfl) rfl rfl hl.1 rfl (lv_room (Nat.le_of_ble_eq_true rfl)) dX11_addPath_116 ⟨Nat.le_of_ble_eq_true rfl, Nat.le_of_ble_eq_true rfl⟩) hW (fun H locs hW => ?_)
              obtain ⟨x8_13, ex8_13, hr⟩ := lt1_e hr
              refine lv_iinc (v := x8_13) (lv' := [(8, .int x8_13), (7, .int x7_8), (0, .ref (ad 0)), (1, .int x1), (2, .int x2), (3, .int x3), (4, .int x4), (5, .int x5)]) hx hb dX11_addPath_119 hl (k := 7) rfl (by rw [ex8_13]; rfl) (by decide) rfl (fun ls hl => ?_)
              refine lv_goto (tgt := 103) hx hb dX11_addPath_122 (by decide) ?_
              exact ih x8_13 M_12 _ _ _ _ hW (lv_sub hl [1, 2, 3, 4, 5, 6, 7, 0] rfl) hr hk
        obtain ⟨M_11, hr, hr3⟩ := ob1_e hr
        refine hL103_1 1000 (0 : Int32) M_7 _ _ _ M_11 hW (lv_sub hl [1, 3, 4, 5, 6, 7, 8, 0] rfl) hr (fun H locs ls hW hl => ?_)
        clear hr
        have hr := hr3
        refine lv_aload_n hx hb dX11_addPath_125 rfl (lv_at hl 1 rfl) ?_
        refine lv_iload hx hb dX11_addPath_126 (lv_at hl 0 rfl) ?_
        refine lv_iconst (v := (0 : Int32)) hx hb dX11_addPath_128 (by decide) ?_
        refine lv_iload_n hx hb dX11_addPath_129 rfl (lv_at hl 2 rfl) ?_
        obtain ⟨M_14, hc130, hr⟩ := ob1_e hr
        refine xk_v (va_runV (As := [.int x7_8, .int (0 : Int32), .int x1]) (rest := []) ⟨hx, hb, hml, hown, hts⟩ (c_X11_lay l D cA ad M_11 x7_8 (0 : Int32) x1 hc130) (cwV 3 hts gX11_addPath_X11_lay rfl rfl rfl (by decide +kernel) ⟨Nat.le_of_ble_eq_true rfl, Nat.le_of_ble_eq_true rfl⟩) (xpreV hK hW (k := 0) rfl (by decide) rfl) rfl rfl hl.1 rfl (lv_room (Nat.le_of_ble_eq_true rfl)) dX11_addPath_130 ⟨Nat.le_of_ble_eq_true rfl, Nat.le_of_ble_eq_true rfl⟩) hW (fun H locs hW => ?_)
        refine lv_aload_n hx hb dX11_addPath_133 rfl (lv_at hl 1 rfl) ?_
        refine lv_iload hx hb dX11_addPath_134 (lv_at hl 0 rfl) ?_
        refine lv_iconst (v := (1 : Int32)) hx hb dX11_addPath_136 (by decide) ?_
        refine lv_iload_n hx hb dX11_addPath_137 rfl (lv_at hl 3 rfl) ?_
        obtain ⟨M_15, hc138, hr⟩ := ob1_e hr
        refine xk_v (va_runV (As := [.int x7_8, .int (1 : Int32), .int x2]) (rest := []) ⟨hx, hb, hml, hown, hts⟩ (c_X11_lay l D cA ad M_14 x7_8 (1 : Int32) x2 hc138) (cwV 3 hts gX11_addPath_X11_lay rfl rfl rfl (by decide +kernel) ⟨Nat.le_of_ble_eq_true rfl, Nat.le_of_ble_eq_true rfl⟩) (xpreV hK hW (k := 0) rfl (by decide) rfl) rfl rfl hl.1 rfl (lv_room (Nat.le_of_ble_eq_true rfl)) dX11_addPath_138 ⟨Nat.le_of_ble_eq_true rfl, Nat.le_of_ble_eq_true rfl⟩) hW (fun H locs hW => ?_)
        refine lv_aload_n hx hb dX11_addPath_141 rfl (lv_at hl 1 rfl) ?_
        refine lv_iload hx hb dX11_addPath_142 (lv_at hl 0 rfl) ?_
        refine lv_iconst (v := (2 : Int32)) hx hb dX11_addPath_144 (by decide) ?_
        refine lv_iload_n hx hb dX11_addPath_145 rfl (lv_at hl 4 rfl) ?_
        obtain ⟨M_16, hc146, hr⟩ := ob1_e hr
        refine xk_v (va_runV (As := [.int x7_8, .int (2 : Int32), .int x3]) (rest := []) ⟨hx, hb, hml, hown, hts⟩ (c_X11_lay l D cA ad M_15 x7_8 (2 : Int32) x3 hc146) (cwV 3 hts gX11_addPath_X11_lay rfl rfl rfl (by decide +kernel) ⟨Nat.le_of_ble_eq_true rfl, Nat.le_of_ble_eq_true rfl⟩) (xpreV hK hW (k := 0) rfl (by decide) rfl) rfl rfl hl.1 rfl (lv_room (Nat.le_of_ble_eq_true rfl)) dX11_addPath_146 ⟨Nat.le_of_ble_eq_true rfl, Nat.le_of_ble_eq_true rfl⟩) hW (fun H locs hW => ?_)
        refine lv_aload_n hx hb dX11_addPath_149 rfl (lv_at hl 1 rfl) ?_
        refine lv_iload hx hb dX11_addPath_150 (lv_at hl 0 rfl) ?_
        refine lv_iconst (v := (3 : Int32)) hx hb dX11_addPath_152 (by decide) ?_
        refine lv_iload hx hb dX11_addPath_153 (lv_at hl 5 rfl) ?_
        obtain ⟨M_17, hc155, hr⟩ := ob1_e hr
        refine xk_v (va_runV (As := [.int x7_8, .int (3 : Int32), .int x4]) (rest := []) ⟨hx, hb, hml, hown, hts⟩ (c_X11_lay l D cA ad M_16 x7_8 (3 : Int32) x4 hc155) (cwV 3 hts gX11_addPath_X11_lay rfl rfl rfl (by decide +kernel) ⟨Nat.le_of_ble_eq_true rfl, Nat.le_of_ble_eq_true rfl⟩) (xpreV hK hW (k := 0) rfl (by decide) rfl) rfl rfl hl.1 rfl (lv_room (Nat.le_of_ble_eq_true rfl)) dX11_addPath_155 ⟨Nat.le_of_ble_eq_true rfl, Nat.le_of_ble_eq_true rfl⟩) hW (fun H locs hW => ?_)
        refine lv_aload_n hx hb dX11_addPath_158 rfl (lv_at hl 1 rfl) ?_
        refine lv_iload hx hb dX11_addPath_159 (lv_at hl 0 rfl) ?_
        refine lv_iconst (v := (4 : Int32)) hx hb dX11_addPath_161 (by decide) ?_
        refine lv_iload hx hb dX11_addPath_162 (lv_at hl 6 rfl) ?_
        obtain ⟨M_18, hc164, hr⟩ := ob1_e hr
        refine xk_v (va_runV (As := [.int x7_8, .int (4 : Int32), .int x5]) (rest := []) ⟨hx, hb, hml, hown, hts⟩ (c_X11_lay l D cA ad M_17 x7_8 (4 : Int32) x5 hc164) (cwV 3 hts gX11_addPath_X11_lay rfl rfl rfl (by decide +kernel) ⟨Nat.le_of_ble_eq_true rfl, Nat.le_of_ble_eq_true rfl⟩) (xpreV hK hW (k := 0) rfl (by decide) rfl) rfl rfl hl.1 rfl (lv_room (Nat.le_of_ble_eq_true rfl)) dX11_addPath_164 ⟨Nat.le_of_ble_eq_true rfl, Nat.le_of_ble_eq_true rfl⟩) hW (fun H locs hW => ?_)
        refine lv_aload_n hx hb dX11_addPath_167 rfl (lv_at hl 1 rfl) ?_
        refine lv_iload hx hb dX11_addPath_168 (lv_at hl 0 rfl) ?_
        refine lv_iconst (v := (5 : Int32)) hx hb dX11_addPath_170 (by decide) ?_
        refine lv_ldc (v := (-2000000005 : Int32)) hx hb hown (hts _ (wm 4 rfl)) dX11_addPath_171 ?_
        obtain ⟨M_19, hc173, hr⟩ := ob1_e hr
        refine xk_v (va_runV (As := [.int x7_8, .int (5 : Int32), .int (-2000000005 : Int32)]) (rest := []) ⟨hx, hb, hml, hown, hts⟩ (c_X11_lay l D cA ad M_18 x7_8 (5 : Int32) (-2000000005 : Int32) hc173) (cwV 3 hts gX11_addPath_X11_lay rfl rfl rfl (by decide +kernel) ⟨Nat.le_of_ble_eq_true rfl, Nat.le_of_ble_eq_true rfl⟩) (xpreV hK hW (k := 0) rfl (by decide) rfl) rfl rfl hl.1 rfl (lv_room (Nat.le_of_ble_eq_true rfl)) dX11_addPath_173 ⟨Nat.le_of_ble_eq_true rfl, Nat.le_of_ble_eq_true rfl⟩) hW (fun H locs hW => ?_)
        refine lv_aload_n hx hb dX11_addPath_176 rfl (lv_at hl 1 rfl) ?_
        refine lv_iload hx hb dX11_addPath_177 (lv_at hl 0 rfl) ?_
        refine lv_bipush (v := (6 : Int32)) hx hb dX11_addPath_179 (by decide) ?_
        refine lv_ldc (v := (-2000000005 : Int32)) hx hb hown (hts _ (wm 4 rfl)) dX11_addPath_181 ?_
        obtain ⟨M_20, hc183, hr⟩ := ob1_e hr
        refine xk_v (va_runV (As := [.int x7_8, .int (6 : Int32), .int (-2000000005 : Int32)]) (rest := []) ⟨hx, hb, hml, hown, hts⟩ (c_X11_lay l D cA ad M_19 x7_8 (6 : Int32) (-2000000005 : Int32) hc183) (cwV 3 hts gX11_addPath_X11_lay rfl rfl rfl (by decide +kernel) ⟨Nat.le_of_ble_eq_true rfl, Nat.le_of_ble_eq_true rfl⟩) (xpreV hK hW (k := 0) rfl (by decide) rfl) rfl rfl hl.1 rfl (lv_room (Nat.le_of_ble_eq_true rfl)) dX11_addPath_183 ⟨Nat.le_of_ble_eq_true rfl, Nat.le_of_ble_eq_true rfl⟩) hW (fun H locs hW => ?_)
        refine lv_aload_n hx hb dX11_addPath_186 rfl (lv_at hl 1 rfl) ?_
        refine lv_iload hx hb dX11_addPath_187 (lv_at hl 0 rfl) ?_
        refine lv_bipush (v := (7 : Int32)) hx hb dX11_addPath_189 (by decide) ?_
        refine lv_ldc (v := (-2000000005 : Int32)) hx hb hown (hts _ (wm 4 rfl)) dX11_addPath_191 ?_
        obtain ⟨M_21, hc193, hr⟩ := ob1_e hr
        refine xk_v (va_runV (As := [.int x7_8, .int (7 : Int32), .int (-2000000005 : Int32)]) (rest := []) ⟨hx, hb, hml, hown, hts⟩ (c_X11_lay l D cA ad M_20 x7_8 (7 : Int32) (-2000000005 : Int32) hc193) (cwV 3 hts gX11_addPath_X11_lay rfl rfl rfl (by decide +kernel) ⟨Nat.le_of_ble_eq_true rfl, Nat.le_of_ble_eq_true rfl⟩) (xpreV hK hW (k := 0) rfl (by decide) rfl) rfl rfl hl.1 rfl (lv_room (Nat.le_of_ble_eq_true rfl)) dX11_addPath_193 ⟨Nat.le_of_ble_eq_true rfl, Nat.le_of_ble_eq_true rfl⟩) hW (fun H locs hW => ?_)
        refine lv_aload_n hx hb dX11_addPath_196 rfl (lv_at hl 1 rfl) ?_
        refine lv_iload hx hb dX11_addPath_197 (lv_at hl 0 rfl) ?_
        refine lv_bipush (v := (8 : Int32)) hx hb dX11_addPath_199 (by decide) ?_
        refine lv_ldc (v := (-2000000005 : Int32)) hx hb hown (hts _ (wm 4 rfl)) dX11_addPath_201 ?_
        obtain ⟨M_22, hc203, hr⟩ := ob1_e hr
        refine xk_v (va_runV (As := [.int x7_8, .int (8 : Int32), .int (-2000000005 : Int32)]) (rest := []) ⟨hx, hb, hml, hown, hts⟩ (c_X11_lay l D cA ad M_21 x7_8 (8 : Int32) (-2000000005 : Int32) hc203) (cwV 3 hts gX11_addPath_X11_lay rfl rfl rfl (by decide +kernel) ⟨Nat.le_of_ble_eq_true rfl, Nat.le_of_ble_eq_true rfl⟩) (xpreV hK hW (k := 0) rfl (by decide) rfl) rfl rfl hl.1 rfl (lv_room (Nat.le_of_ble_eq_true rfl)) dX11_addPath_203 ⟨Nat.le_of_ble_eq_true rfl, Nat.le_of_ble_eq_true rfl⟩) hW (fun H locs hW => ?_)
        refine lv_aload_n hx hb dX11_addPath_206 rfl (lv_at hl 1 rfl) ?_
        refine lv_iload hx hb dX11_addPath_207 (lv_at hl 0 rfl) ?_
        refine lv_bipush (v := (9 : Int32)) hx hb dX11_addPath_209 (by decide) ?_
        refine lv_ldc (v := (-2000000005 : Int32)) hx hb hown (hts _ (wm 4 rfl)) dX11_addPath_211 ?_
        obtain ⟨M_23, hc213, hr⟩ := ob1_e hr
        refine xk_v (va_runV (As := [.int x7_8, .int (9 : Int32), .int (-2000000005 : Int32)]) (rest := []) ⟨hx, hb, hml, hown, hts⟩ (c_X11_lay l D cA ad M_22 x7_8 (9 : Int32) (-2000000005 : Int32) hc213) (cwV 3 hts gX11_addPath_X11_lay rfl rfl rfl (by decide +kernel) ⟨Nat.le_of_ble_eq_true rfl, Nat.le_of_ble_eq_true rfl⟩) (xpreV hK hW (k := 0) rfl (by decide) rfl) rfl rfl hl.1 rfl (lv_room (Nat.le_of_ble_eq_true rfl)) dX11_addPath_213 ⟨Nat.le_of_ble_eq_true rfl, Nat.le_of_ble_eq_true rfl⟩) hW (fun H locs hW => ?_)
        refine lv_aload_n hx hb dX11_addPath_216 rfl (lv_at hl 1 rfl) ?_
        refine lv_iload hx hb dX11_addPath_217 (lv_at hl 0 rfl) ?_
        refine lv_bipush (v := (13 : Int32)) hx hb dX11_addPath_219 (by decide) ?_
        refine lv_ldc (v := (-2000000005 : Int32)) hx hb hown (hts _ (wm 4 rfl)) dX11_addPath_221 ?_
        obtain ⟨M_24, hc223, hr⟩ := ob1_e hr
        refine xk_v (va_runV (As := [.int x7_8, .int (13 : Int32), .int (-2000000005 : Int32)]) (rest := []) ⟨hx, hb, hml, hown, hts⟩ (c_X11_lay l D cA ad M_23 x7_8 (13 : Int32) (-2000000005 : Int32) hc223) (cwV 3 hts gX11_addPath_X11_lay rfl rfl rfl (by decide +kernel) ⟨Nat.le_of_ble_eq_true rfl, Nat.le_of_ble_eq_true rfl⟩) (xpreV hK hW (k := 0) rfl (by decide) rfl) rfl rfl hl.1 rfl (lv_room (Nat.le_of_ble_eq_true rfl)) dX11_addPath_223 ⟨Nat.le_of_ble_eq_true rfl, Nat.le_of_ble_eq_true rfl⟩) hW (fun H locs hW => ?_)
        refine lv_aload_n hx hb dX11_addPath_226 rfl (lv_at hl 1 rfl) ?_
        refine g11_0 hx hb hts hi11 hown hK hW (k := 0) rfl (hts _ (wm 2 rfl)) dX11_addPath_227 ?_
        refine lv_bipush (v := (64 : Int32)) hx hb dX11_addPath_230 (by decide) ?_
        refine lv_dup2_11 hx hb dX11_addPath_232 rfl rfl ?_
        refine xiald hx hb hK hW (k := 1) (t := 24) rfl (by decide) (by decide) rfl (n := 159) (by decide) (jx := 64) (by decide) dX11_addPath_233 ?_
        refine lv_iconst (v := (1 : Int32)) hx hb dX11_addPath_234 (by decide) ?_
        refine lv_iadd hx hb dX11_addPath_235 ?_
        obtain ⟨M_25, eM_25, hr⟩ := lt1_e hr
        refine xiast hx hb hK hW (k := 1) (t := 24) rfl (by decide) (by decide) rfl (n := 159) (by decide) (jx := 64) (by decide) dX11_addPath_236 (fun H locs hW => ?_)
        rw [← eM_25] at hW
        refine lv_iload hx hb dX11_addPath_237 (lv_at hl 0 rfl) ?_
        obtain ⟨e1, e2⟩ := Prod.mk.inj (Option.some.inj hr)
        rw [← e1, ← e2]
        exact xiret hx hb hr0 hlocks hW adR_rf dX11_addPath_239
      · have hr := br_p c1 hr
        refine lv_ldc (v := (-2000000004 : Int32)) hx hb hown (hts _ (wm 3 rfl)) dX11_addPath_84 ?_
        obtain ⟨e1, e2⟩ := Prod.mk.inj (Option.some.inj hr)
        rw [← e1, ← e2]
        exact xiret hx hb hr0 hlocks hW adR_rf dX11_addPath_86
    · have hr := br_p c1 hr
      refine lv_ldc (v := (-2000000002 : Int32)) hx hb hown (hts _ (wm 1 rfl)) dX11_addPath_70 ?_
      obtain ⟨e1, e2⟩ := Prod.mk.inj (Option.some.inj hr)
      rw [← e1, ← e2]
      exact xiret hx hb hr0 hlocks hW adR_rf dX11_addPath_72
  clear hr3
  refine lv_if_eq (tgt := 62) hx hb dX11_addPath_9 (by decide) (fun c1 => ?_) (fun c1 => ?_)
  · have hr := br_p c1 hr
    refine lv_iconst (v := (0 : Int32)) hx hb dX11_addPath_62 (by decide) ?_
    have e1 := Option.some.inj hr
    subst e1
    exact hj63_2 _ _ _ hW (lv_sub hl [0, 1, 2, 3, 4, 5] rfl)
  · have hr := br_n c1 hr
    refine lv_iload_n hx hb dX11_addPath_12 rfl (lv_at hl 2 rfl) ?_
    refine lv_bipush (v := (10 : Int32)) hx hb dX11_addPath_13 (by decide) ?_
    refine lv_iload_n hx hb dX11_addPath_15 rfl (lv_at hl 1 rfl) ?_
    obtain ⟨r_3, hc16, hr⟩ := ob1_e hr
    refine xk_i (va_runS (As := [.int x2, .int (10 : Int32), .int x1]) (rest := []) ⟨hx, hb, hml, hown, hts⟩ (c_X11_in l D cA ad M x2 (10 : Int32) x1 hc16) (va_cwS 3 hts gX11_addPath_X11_in rfl rfl rfl (by decide +kernel) ⟨Nat.le_of_ble_eq_true rfl, Nat.le_of_ble_eq_true rfl⟩) (xpreS hK hW) rfl rfl hl.1 rfl (lv_room (Nat.le_of_ble_eq_true rfl)) dX11_addPath_16 ⟨Nat.le_of_ble_eq_true rfl, Nat.le_of_ble_eq_true rfl⟩) hW (fun H locs hW => ?_)
    refine lv_if_eq (tgt := 62) hx hb dX11_addPath_19 (by decide) (fun c1 => ?_) (fun c1 => ?_)
    · have hr := br_p c1 hr
      refine lv_iconst (v := (0 : Int32)) hx hb dX11_addPath_62 (by decide) ?_
      have e1 := Option.some.inj hr
      subst e1
      exact hj63_2 _ _ _ hW (lv_sub hl [0, 1, 2, 3, 4, 5] rfl)
    · have hr := br_n c1 hr
      refine lv_iload_n hx hb dX11_addPath_22 rfl (lv_at hl 3 rfl) ?_
      refine lv_iconst (v := (1 : Int32)) hx hb dX11_addPath_23 (by decide) ?_
      refine lv_sipush (v := (1000 : Int32)) hx hb dX11_addPath_24 (by decide) ?_
      obtain ⟨r_4, hc27, hr⟩ := ob1_e hr
      refine xk_i (va_runS (As := [.int x3, .int (1 : Int32), .int (1000 : Int32)]) (rest := []) ⟨hx, hb, hml, hown, hts⟩ (c_X11_in l D cA ad M x3 (1 : Int32) (1000 : Int32) hc27) (va_cwS 3 hts gX11_addPath_X11_in rfl rfl rfl (by decide +kernel) ⟨Nat.le_of_ble_eq_true rfl, Nat.le_of_ble_eq_true rfl⟩) (xpreS hK hW) rfl rfl hl.1 rfl (lv_room (Nat.le_of_ble_eq_true rfl)) dX11_addPath_27 ⟨Nat.le_of_ble_eq_true rfl, Nat.le_of_ble_eq_true rfl⟩) hW (fun H locs hW => ?_)
      refine lv_if_eq (tgt := 62) hx hb dX11_addPath_30 (by decide) (fun c1 => ?_) (fun c1 => ?_)
      · have hr := br_p c1 hr
        refine lv_iconst (v := (0 : Int32)) hx hb dX11_addPath_62 (by decide) ?_
        have e1 := Option.some.inj hr
        subst e1
        exact hj63_2 _ _ _ hW (lv_sub hl [0, 1, 2, 3, 4, 5] rfl)
      · have hr := br_n c1 hr
        refine lv_iload hx hb dX11_addPath_33 (lv_at hl 4 rfl) ?_
        refine lv_bipush (v := (100 : Int32)) hx hb dX11_addPath_35 (by decide) ?_
        refine lv_sipush (v := (10000 : Int32)) hx hb dX11_addPath_37 (by decide) ?_
        obtain ⟨r_5, hc40, hr⟩ := ob1_e hr
        refine xk_i (va_runS (As := [.int x4, .int (100 : Int32), .int (10000 : Int32)]) (rest := []) ⟨hx, hb, hml, hown, hts⟩ (c_X11_in l D cA ad M x4 (100 : Int32) (10000 : Int32) hc40) (va_cwS 3 hts gX11_addPath_X11_in rfl rfl rfl (by decide +kernel) ⟨Nat.le_of_ble_eq_true rfl, Nat.le_of_ble_eq_true rfl⟩) (xpreS hK hW) rfl rfl hl.1 rfl (lv_room (Nat.le_of_ble_eq_true rfl)) dX11_addPath_40 ⟨Nat.le_of_ble_eq_true rfl, Nat.le_of_ble_eq_true rfl⟩) hW (fun H locs hW => ?_)
        refine lv_if_eq (tgt := 62) hx hb dX11_addPath_43 (by decide) (fun c1 => ?_) (fun c1 => ?_)
        · have hr := br_p c1 hr
          refine lv_iconst (v := (0 : Int32)) hx hb dX11_addPath_62 (by decide) ?_
          have e1 := Option.some.inj hr
          subst e1
          exact hj63_2 _ _ _ hW (lv_sub hl [0, 1, 2, 3, 4, 5] rfl)
        · have hr := br_n c1 hr
          refine lv_iload hx hb dX11_addPath_46 (lv_at hl 5 rfl) ?_
          refine lv_iconst (v := (0 : Int32)) hx hb dX11_addPath_48 (by decide) ?_
          refine lv_sipush (v := (5000 : Int32)) hx hb dX11_addPath_49 (by decide) ?_
          obtain ⟨r_6, hc52, hr⟩ := ob1_e hr
          refine xk_i (va_runS (As := [.int x5, .int (0 : Int32), .int (5000 : Int32)]) (rest := []) ⟨hx, hb, hml, hown, hts⟩ (c_X11_in l D cA ad M x5 (0 : Int32) (5000 : Int32) hc52) (va_cwS 3 hts gX11_addPath_X11_in rfl rfl rfl (by decide +kernel) ⟨Nat.le_of_ble_eq_true rfl, Nat.le_of_ble_eq_true rfl⟩) (xpreS hK hW) rfl rfl hl.1 rfl (lv_room (Nat.le_of_ble_eq_true rfl)) dX11_addPath_52 ⟨Nat.le_of_ble_eq_true rfl, Nat.le_of_ble_eq_true rfl⟩) hW (fun H locs hW => ?_)
          refine lv_if_eq (tgt := 62) hx hb dX11_addPath_55 (by decide) (fun c1 => ?_) (fun c1 => ?_)
          · have hr := br_p c1 hr
            refine lv_iconst (v := (0 : Int32)) hx hb dX11_addPath_62 (by decide) ?_
            have e1 := Option.some.inj hr
            subst e1
            exact hj63_2 _ _ _ hW (lv_sub hl [0, 1, 2, 3, 4, 5] rfl)
          · have hr := br_n c1 hr
            refine lv_iconst (v := (1 : Int32)) hx hb dX11_addPath_58 (by decide) ?_
            refine lv_goto (tgt := 63) hx hb dX11_addPath_59 (by decide) ?_
            have e1 := Option.some.inj hr
            subst e1
            exact hj63_2 _ _ _ hW (lv_sub hl [0, 1, 2, 3, 4, 5] rfl)

set_option maxHeartbeats 4000000 in
set_option maxRecDepth 100000 in
theorem c_X11_setWeight (l : Launch) (D : va_G) (cA : Nat → ClassId) (ad : Nat → Nat) (M : Mm) (x1 : Int32) (x2 : Int32) {r : Int32} {M' : Mm} (hr : f_X11_setWeight x1 x2 M = some (r, M')) : Met l yX11_setWeight wsX11_setWeight ({ frames := 2, cells := 0, slots := 0, locals := 43 }) (PcX D false cA ad M [.ref (ad 0), .int x1, .int x2]) (QiX false D false cA ad r M') 0 0 (AX false ad) := by
  refine Met.ofW (cc := cX11_setWeight) (maxL := 4) (ret := (some .int)) (by decide) rfl ?_
  intro p e s m args below meth c s₁ B hml hv
  obtain ⟨hav, hP0, hK⟩ := hv
  have hx := B.exec
  have hb := B.bytes
  have hr0 := B.returns
  have hts := atoms_spec (ws := wsX11_setWeight) B.pre
  have hown : s.vm.findClass RX11 = some m.cls := findClass_of_methodNamed B.named
  have hlocks := B.notSynchronized
  have hW := xstart hP0
  have hl := lv_entry ([.ref (ad 0), .int x1, .int x2]) (n := 4) (Nat.le_of_ble_eq_true rfl)
  have hef := lg_entry_eq m ([.ref (ad 0), .int x1, .int x2]) 4
  rw [← hav] at hef
  rw [hef]
  clear hef
  generalize (lg_sl ([.ref (ad 0), .int x1, .int x2]) ++ List.replicate (4 - (lg_sl ([.ref (ad 0), .int x1, .int x2])).length) Slot.unset).toArray = ls at hl ⊢
  have hl : lv_has ls 4 [(0, .ref (ad 0)), (1, .int x1), (2, .int x2)] := hl
  clear hP0
  unfold f_X11_setWeight at hr
  refine lv_aload_n hx hb dX11_setWeight_0 rfl (lv_at hl 0 rfl) ?_
  refine lv_iload_n hx hb dX11_setWeight_1 rfl (lv_at hl 1 rfl) ?_
  obtain ⟨r_1, hc2, hr⟩ := ob1_e hr
  refine xk_i (va_runV (As := [.int x1]) (rest := []) ⟨hx, hb, hml, hown, hts⟩ (c_X11_isPath l D cA ad M x1 hc2) (cwV 1 hts gX11_setWeight_X11_isPath rfl rfl rfl (by decide +kernel) ⟨Nat.le_of_ble_eq_true rfl, Nat.le_of_ble_eq_true rfl⟩) (xpreV hK hW (k := 0) rfl (by decide) rfl) rfl rfl hl.1 rfl (lv_room (Nat.le_of_ble_eq_true rfl)) dX11_setWeight_2 ⟨Nat.le_of_ble_eq_true rfl, Nat.le_of_ble_eq_true rfl⟩) hW (fun H locs hW => ?_)
  refine lv_if_ne (tgt := 11) hx hb dX11_setWeight_5 (by decide) (fun c1 => ?_) (fun c1 => ?_)
  · have hr := br_n c1 hr
    refine lv_iload_n hx hb dX11_setWeight_11 rfl (lv_at hl 2 rfl) ?_
    refine lv_iconst (v := (1 : Int32)) hx hb dX11_setWeight_12 (by decide) ?_
    refine lv_sipush (v := (1000 : Int32)) hx hb dX11_setWeight_13 (by decide) ?_
    obtain ⟨r_2, hc16, hr⟩ := ob1_e hr
    refine xk_i (va_runS (As := [.int x2, .int (1 : Int32), .int (1000 : Int32)]) (rest := []) ⟨hx, hb, hml, hown, hts⟩ (c_X11_in l D cA ad M x2 (1 : Int32) (1000 : Int32) hc16) (va_cwS 3 hts gX11_setWeight_X11_in rfl rfl rfl (by decide +kernel) ⟨Nat.le_of_ble_eq_true rfl, Nat.le_of_ble_eq_true rfl⟩) (xpreS hK hW) rfl rfl hl.1 rfl (lv_room (Nat.le_of_ble_eq_true rfl)) dX11_setWeight_16 ⟨Nat.le_of_ble_eq_true rfl, Nat.le_of_ble_eq_true rfl⟩) hW (fun H locs hW => ?_)
    refine lv_if_ne (tgt := 25) hx hb dX11_setWeight_19 (by decide) (fun c1 => ?_) (fun c1 => ?_)
    · have hr := br_n c1 hr
      refine lv_aload_n hx hb dX11_setWeight_25 rfl (lv_at hl 0 rfl) ?_
      obtain ⟨M_3, hc26, hr⟩ := ob1_e hr
      refine xk_v (va_runV (As := []) (rest := []) ⟨hx, hb, hml, hown, hts⟩ (c_X11_records l D cA ad M hc26) (cwV 0 hts gX11_setWeight_X11_records rfl rfl rfl (by decide +kernel) ⟨Nat.le_of_ble_eq_true rfl, Nat.le_of_ble_eq_true rfl⟩) (xpreV hK hW (k := 0) rfl (by decide) rfl) rfl rfl hl.1 rfl (lv_room (Nat.le_of_ble_eq_true rfl)) dX11_setWeight_26 ⟨Nat.le_of_ble_eq_true rfl, Nat.le_of_ble_eq_true rfl⟩) hW (fun H locs hW => ?_)
      refine lv_aload_n hx hb dX11_setWeight_29 rfl (lv_at hl 0 rfl) ?_
      refine lv_iload_n hx hb dX11_setWeight_30 rfl (lv_at hl 1 rfl) ?_
      refine lv_iconst (v := (2 : Int32)) hx hb dX11_setWeight_31 (by decide) ?_
      obtain ⟨r_4, hc32, hr⟩ := ob1_e hr
      refine xk_i (va_runV (As := [.int x1, .int (2 : Int32)]) (rest := []) ⟨hx, hb, hml, hown, hts⟩ (c_X11_of l D cA ad M_3 x1 (2 : Int32) hc32) (cwV 2 hts gX11_setWeight_X11_of rfl rfl rfl (by decide +kernel) ⟨Nat.le_of_ble_eq_true rfl, Nat.le_of_ble_eq_true rfl⟩) (xpreV hK hW (k := 0) rfl (by decide) rfl) rfl rfl hl.1 rfl (lv_room (Nat.le_of_ble_eq_true rfl)) dX11_setWeight_32 ⟨Nat.le_of_ble_eq_true rfl, Nat.le_of_ble_eq_true rfl⟩) hW (fun H locs hW => ?_)
      refine lv_istore_n (lv' := [(3, .int r_4), (0, .ref (ad 0)), (1, .int x1), (2, .int x2)]) hx hb dX11_setWeight_35 rfl hl (by decide) rfl (fun ls hl => ?_)
      refine lv_aload_n hx hb dX11_setWeight_36 rfl (lv_at hl 1 rfl) ?_
      refine lv_iload_n hx hb dX11_setWeight_37 rfl (lv_at hl 2 rfl) ?_
      refine lv_iconst (v := (2 : Int32)) hx hb dX11_setWeight_38 (by decide) ?_
      refine lv_iload_n hx hb dX11_setWeight_39 rfl (lv_at hl 3 rfl) ?_
      obtain ⟨M_5, hc40, hr⟩ := ob1_e hr
      refine xk_v (va_runV (As := [.int x1, .int (2 : Int32), .int x2]) (rest := []) ⟨hx, hb, hml, hown, hts⟩ (c_X11_lay l D cA ad M_3 x1 (2 : Int32) x2 hc40) (cwV 3 hts gX11_setWeight_X11_lay rfl rfl rfl (by decide +kernel) ⟨Nat.le_of_ble_eq_true rfl, Nat.le_of_ble_eq_true rfl⟩) (xpreV hK hW (k := 0) rfl (by decide) rfl) rfl rfl hl.1 rfl (lv_room (Nat.le_of_ble_eq_true rfl)) dX11_setWeight_40 ⟨Nat.le_of_ble_eq_true rfl, Nat.le_of_ble_eq_true rfl⟩) hW (fun H locs hW => ?_)
      refine lv_iload_n hx hb dX11_setWeight_43 rfl (lv_at hl 0 rfl) ?_
      obtain ⟨e1, e2⟩ := Prod.mk.inj (Option.some.inj hr)
      rw [← e1, ← e2]
      exact xiret hx hb hr0 hlocks hW adR_rf dX11_setWeight_44
    · have hr := br_p c1 hr
      refine lv_ldc (v := (-2000000002 : Int32)) hx hb hown (hts _ (wm 2 rfl)) dX11_setWeight_22 ?_
      obtain ⟨e1, e2⟩ := Prod.mk.inj (Option.some.inj hr)
      rw [← e1, ← e2]
      exact xiret hx hb hr0 hlocks hW adR_rf dX11_setWeight_24
  · have hr := br_p c1 hr
    refine lv_ldc (v := (-2000000001 : Int32)) hx hb hown (hts _ (wm 1 rfl)) dX11_setWeight_8 ?_
    obtain ⟨e1, e2⟩ := Prod.mk.inj (Option.some.inj hr)
    rw [← e1, ← e2]
    exact xiret hx hb hr0 hlocks hW adR_rf dX11_setWeight_10

set_option maxHeartbeats 4000000 in
set_option maxRecDepth 100000 in
theorem c_X11_speedAt (l : Launch) (D : va_G) (cA : Nat → ClassId) (ad : Nat → Nat) (M : Mm) (x1 : Int32) {r : Int32} (hr : f_X11_speedAt x1 M = some r) : Met l yX11_speedAt wsX11_speedAt ({ frames := 0, cells := 0, slots := 0, locals := 0 }) (PcX D false cA ad M [.ref (ad 0), .int x1]) (QiX false D false cA ad r M) 0 0 (AX false ad) := by
  refine Met.ofW (cc := cX11_speedAt) (maxL := 2) (ret := (some .int)) (by decide) rfl ?_
  intro p e s m args below meth c s₁ B hml hv
  obtain ⟨hav, hP0, hK⟩ := hv
  have hx := B.exec
  have hb := B.bytes
  have hr0 := B.returns
  have hts := atoms_spec (ws := wsX11_speedAt) B.pre
  have hown : s.vm.findClass RX11 = some m.cls := findClass_of_methodNamed B.named
  have hlocks := B.notSynchronized
  have hW := xstart hP0
  have hi11 : ∀ w ∈ wsX110, w ∈ wsX11_speedAt := fun w h => List.mem_cons_of_mem _ (List.mem_append_right _ h)
  have hl := lv_entry ([.ref (ad 0), .int x1]) (n := 2) (Nat.le_of_ble_eq_true rfl)
  have hef := lg_entry_eq m ([.ref (ad 0), .int x1]) 2
  rw [← hav] at hef
  rw [hef]
  clear hef
  generalize (lg_sl ([.ref (ad 0), .int x1]) ++ List.replicate (2 - (lg_sl ([.ref (ad 0), .int x1])).length) Slot.unset).toArray = ls at hl ⊢
  have hl : lv_has ls 2 [(0, .ref (ad 0)), (1, .int x1)] := hl
  clear hP0
  unfold f_X11_speedAt at hr
  refine lv_aload_n hx hb dX11_speedAt_0 rfl (lv_at hl 0 rfl) ?_
  refine g11_0 hx hb hts hi11 hown hK hW (k := 0) rfl (hts _ (wm 1 rfl)) dX11_speedAt_1 ?_
  refine lv_bipush (v := (66 : Int32)) hx hb dX11_speedAt_4 (by decide) ?_
  refine lv_iconst (v := (2 : Int32)) hx hb dX11_speedAt_6 (by decide) ?_
  refine lv_iload_n hx hb dX11_speedAt_7 rfl (lv_at hl 1 rfl) ?_
  refine lv_imul hx hb dX11_speedAt_8 ?_
  refine lv_iadd hx hb dX11_speedAt_9 ?_
  obtain ⟨hn10, hr⟩ := chk_e hr
  refine xiald hx hb hK hW (k := 1) (t := 24) rfl (by decide) (by decide) rfl (n := 159) hn10 (jx := (ix ((66 : Int32) + ((2 : Int32) * x1)))) rfl dX11_speedAt_10 ?_
  rw [← Option.some.inj hr]
  exact xiret hx hb hr0 hlocks hW adR_rf dX11_speedAt_11

set_option maxHeartbeats 4000000 in
set_option maxRecDepth 100000 in
theorem c_X11_factorAt (l : Launch) (D : va_G) (cA : Nat → ClassId) (ad : Nat → Nat) (M : Mm) (x1 : Int32) {r : Int32} (hr : f_X11_factorAt x1 M = some r) : Met l yX11_factorAt wsX11_factorAt ({ frames := 0, cells := 0, slots := 0, locals := 0 }) (PcX D false cA ad M [.ref (ad 0), .int x1]) (QiX false D false cA ad r M) 0 0 (AX false ad) := by
  refine Met.ofW (cc := cX11_factorAt) (maxL := 2) (ret := (some .int)) (by decide) rfl ?_
  intro p e s m args below meth c s₁ B hml hv
  obtain ⟨hav, hP0, hK⟩ := hv
  have hx := B.exec
  have hb := B.bytes
  have hr0 := B.returns
  have hts := atoms_spec (ws := wsX11_factorAt) B.pre
  have hown : s.vm.findClass RX11 = some m.cls := findClass_of_methodNamed B.named
  have hlocks := B.notSynchronized
  have hW := xstart hP0
  have hi11 : ∀ w ∈ wsX110, w ∈ wsX11_factorAt := fun w h => List.mem_cons_of_mem _ (List.mem_append_right _ h)
  have hl := lv_entry ([.ref (ad 0), .int x1]) (n := 2) (Nat.le_of_ble_eq_true rfl)
  have hef := lg_entry_eq m ([.ref (ad 0), .int x1]) 2
  rw [← hav] at hef
  rw [hef]
  clear hef
  generalize (lg_sl ([.ref (ad 0), .int x1]) ++ List.replicate (2 - (lg_sl ([.ref (ad 0), .int x1])).length) Slot.unset).toArray = ls at hl ⊢
  have hl : lv_has ls 2 [(0, .ref (ad 0)), (1, .int x1)] := hl
  clear hP0
  unfold f_X11_factorAt at hr
  refine lv_aload_n hx hb dX11_factorAt_0 rfl (lv_at hl 0 rfl) ?_
  refine g11_0 hx hb hts hi11 hown hK hW (k := 0) rfl (hts _ (wm 1 rfl)) dX11_factorAt_1 ?_
  refine lv_bipush (v := (66 : Int32)) hx hb dX11_factorAt_4 (by decide) ?_
  refine lv_iconst (v := (2 : Int32)) hx hb dX11_factorAt_6 (by decide) ?_
  refine lv_iload_n hx hb dX11_factorAt_7 rfl (lv_at hl 1 rfl) ?_
  refine lv_imul hx hb dX11_factorAt_8 ?_
  refine lv_iadd hx hb dX11_factorAt_9 ?_
  refine lv_iconst (v := (1 : Int32)) hx hb dX11_factorAt_10 (by decide) ?_
  refine lv_iadd hx hb dX11_factorAt_11 ?_
  obtain ⟨hn12, hr⟩ := chk_e hr
  refine xiald hx hb hK hW (k := 1) (t := 24) rfl (by decide) (by decide) rfl (n := 159) hn12 (jx := (ix (((66 : Int32) + ((2 : Int32) * x1)) + (1 : Int32)))) rfl dX11_factorAt_12 ?_
  rw [← Option.some.inj hr]
  exact xiret hx hb hr0 hlocks hW adR_rf dX11_factorAt_13

set_option maxHeartbeats 4000000 in
set_option maxRecDepth 100000 in
theorem c_X11_placeOf (l : Launch) (D : va_G) (cA : Nat → ClassId) (ad : Nat → Nat) (M : Mm) (x1 : Int32) {r : Int32} (hr : f_X11_placeOf x1 M = some r) : Met l yX11_placeOf wsX11_placeOf ({ frames := 1, cells := 0, slots := 0, locals := 21 }) (PcX D false cA ad M [.ref (ad 0), .int x1]) (QiX false D false cA ad r M) 0 0 (AX false ad) := by
  refine Met.ofW (cc := cX11_placeOf) (maxL := 3) (ret := (some .int)) (by decide) rfl ?_
  intro p e s m args below meth c s₁ B hml hv
  obtain ⟨hav, hP0, hK⟩ := hv
  have hx := B.exec
  have hb := B.bytes
  have hr0 := B.returns
  have hts := atoms_spec (ws := wsX11_placeOf) B.pre
  have hown : s.vm.findClass RX11 = some m.cls := findClass_of_methodNamed B.named
  have hlocks := B.notSynchronized
  have hW := xstart hP0
  have hi11 : ∀ w ∈ wsX110, w ∈ wsX11_placeOf := fun w h => List.mem_cons_of_mem _ (List.mem_append_right _ h)
  have hl := lv_entry ([.ref (ad 0), .int x1]) (n := 3) (Nat.le_of_ble_eq_true rfl)
  have hef := lg_entry_eq m ([.ref (ad 0), .int x1]) 3
  rw [← hav] at hef
  rw [hef]
  clear hef
  generalize (lg_sl ([.ref (ad 0), .int x1]) ++ List.replicate (3 - (lg_sl ([.ref (ad 0), .int x1])).length) Slot.unset).toArray = ls at hl ⊢
  have hl : lv_has ls 3 [(0, .ref (ad 0)), (1, .int x1)] := hl
  clear hP0
  unfold f_X11_placeOf at hr
  refine lv_iconst (v := (0 : Int32)) hx hb dX11_placeOf_0 (by decide) ?_
  refine lv_istore_n (lv' := [(2, .int (0 : Int32)), (0, .ref (ad 0)), (1, .int x1)]) hx hb dX11_placeOf_1 rfl hl (by decide) rfl (fun ls hl => ?_)
  have hL2_1 : ∀ (n : Nat) (x2_1 : Int32) (H : Heap) (locs : List Loc) (ls : Array Slot) (x2_2 : Int32), Xw D false cA ad M (AX false ad) s.heap H locs → lv_has ls 3 [(0, .ref (ad 0)), (1, .int x1), (2, .int x2_1)] → f_X11_placeOf_L2 M x1 n x2_1 = some x2_2 → (∀ (H : Heap) (locs : List Loc) (ls : Array Slot), Xw D false cA ad M (AX false ad) s.heap H locs → lv_has ls 3 [(2, .int x2_2)] → W p l e (headSpec wsX11_placeOf { frames := 1, cells := 0, slots := 0, locals := 21 }).room s m args below meth c H locs 0 0 (MQ below (QiX false D false cA ad r M) args s 0 0 (AX false ad)) (F0 m 28 ls [])) → W p l e (headSpec wsX11_placeOf { frames := 1, cells := 0, slots := 0, locals := 21 }).room s m args below meth c H locs 0 0 (MQ below (QiX false D false cA ad r M) args s 0 0 (AX false ad)) (F0 m 2 ls []) := by
    intro n
    induction n with
    | zero =>
      intro x2_1 H locs ls x2_2 hW hl hr hk
      exact absurd hr (by simp [f_X11_placeOf_L2])
    | succ n ih =>
      intro x2_1 H locs ls x2_2 hW hl hr hk
      rw [f_X11_placeOf_L2] at hr
      refine lv_iload_n hx hb dX11_placeOf_2 rfl (lv_at hl 2 rfl) ?_
      refine lv_aload_n hx hb dX11_placeOf_3 rfl (lv_at hl 0 rfl) ?_
      refine g11_0 hx hb hts hi11 hown hK hW (k := 0) rfl (hts _ (wm 1 rfl)) dX11_placeOf_4 ?_
      refine lv_bipush (v := (65 : Int32)) hx hb dX11_placeOf_7 (by decide) ?_
      refine xiald hx hb hK hW (k := 1) (t := 24) rfl (by decide) (by decide) rfl (n := 159) (by decide) (jx := 65) (by decide) dX11_placeOf_9 ?_
      refine lv_icmp_ge (tgt := 28) hx hb dX11_placeOf_10 (by decide) (fun c1 => ?_) (fun c1 => ?_)
      · have hr := br_p c1 hr
        have e1 := Option.some.inj hr
        subst e1
        exact hk _ _ _ hW (lv_sub hl [2] rfl)
      · have hr := br_n c1 hr
        refine lv_aload_n hx hb dX11_placeOf_13 rfl (lv_at hl 0 rfl) ?_
        refine lv_iload_n hx hb dX11_placeOf_14 rfl (lv_at hl 2 rfl) ?_
        obtain ⟨r_3, hc15, hr⟩ := ob1_e hr
        refine xk_i (va_runV (As := [.int x2_1]) (rest := []) ⟨hx, hb, hml, hown, hts⟩ (c_X11_speedAt l D cA ad M x2_1 hc15) (cwV 1 hts gX11_placeOf_X11_speedAt rfl rfl rfl (by decide +kernel) ⟨Nat.le_of_ble_eq_true rfl, Nat.le_of_ble_eq_true rfl⟩) (xpreV hK hW (k := 0) rfl (by decide) rfl) rfl rfl hl.1 rfl (lv_room (Nat.le_of_ble_eq_true rfl)) dX11_placeOf_15 ⟨Nat.le_of_ble_eq_true rfl, Nat.le_of_ble_eq_true rfl⟩) hW (fun H locs hW => ?_)
        refine lv_iload_n hx hb dX11_placeOf_18 rfl (lv_at hl 1 rfl) ?_
        refine lv_icmp_ge (tgt := 28) hx hb dX11_placeOf_19 (by decide) (fun c1 => ?_) (fun c1 => ?_)
        · have hr := br_p c1 hr
          have e1 := Option.some.inj hr
          subst e1
          exact hk _ _ _ hW (lv_sub hl [2] rfl)
        · have hr := br_n c1 hr
          obtain ⟨x2_4, ex2_4, hr⟩ := lt1_e hr
          refine lv_iinc (v := x2_4) (lv' := [(2, .int x2_4), (0, .ref (ad 0)), (1, .int x1)]) hx hb dX11_placeOf_22 hl (k := 2) rfl (by rw [ex2_4]; rfl) (by decide) rfl (fun ls hl => ?_)
          refine lv_goto (tgt := 2) hx hb dX11_placeOf_25 (by decide) ?_
          exact ih x2_4 _ _ _ _ hW (lv_sub hl [1, 2, 0] rfl) hr hk
  obtain ⟨x2_2, hr, hr3⟩ := ob1_e hr
  refine hL2_1 1000 (0 : Int32) _ _ _ x2_2 hW (lv_sub hl [1, 2, 0] rfl) hr (fun H locs ls hW hl => ?_)
  clear hr
  have hr := hr3
  refine lv_iload_n hx hb dX11_placeOf_28 rfl (lv_at hl 0 rfl) ?_
  rw [← Option.some.inj hr]
  exact xiret hx hb hr0 hlocks hW adR_rf dX11_placeOf_29

set_option maxHeartbeats 4000000 in
set_option maxRecDepth 100000 in
theorem c_X11_setPoint (l : Launch) (D : va_G) (cA : Nat → ClassId) (ad : Nat → Nat) (M : Mm) (x1 : Int32) (x2 : Int32) {r : Int32} {M' : Mm} (hr : f_X11_setPoint x1 x2 M = some (r, M')) : Met l yX11_setPoint wsX11_setPoint ({ frames := 2, cells := 0, slots := 0, locals := 43 }) (PcX D false cA ad M [.ref (ad 0), .int x1, .int x2]) (QiX false D false cA ad r M') 0 0 (AX false ad) := by
  refine Met.ofW (cc := cX11_setPoint) (maxL := 6) (ret := (some .int)) (by decide) rfl ?_
  intro p e s m args below meth c s₁ B hml hv
  obtain ⟨hav, hP0, hK⟩ := hv
  have hx := B.exec
  have hb := B.bytes
  have hr0 := B.returns
  have hts := atoms_spec (ws := wsX11_setPoint) B.pre
  have hown : s.vm.findClass RX11 = some m.cls := findClass_of_methodNamed B.named
  have hlocks := B.notSynchronized
  have hW := xstart hP0
  have hi11 : ∀ w ∈ wsX110, w ∈ wsX11_setPoint := fun w h => List.mem_cons_of_mem _ (List.mem_append_right _ h)
  have hl := lv_entry ([.ref (ad 0), .int x1, .int x2]) (n := 6) (Nat.le_of_ble_eq_true rfl)
  have hef := lg_entry_eq m ([.ref (ad 0), .int x1, .int x2]) 6
  rw [← hav] at hef
  rw [hef]
  clear hef
  generalize (lg_sl ([.ref (ad 0), .int x1, .int x2]) ++ List.replicate (6 - (lg_sl ([.ref (ad 0), .int x1, .int x2])).length) Slot.unset).toArray = ls at hl ⊢
  have hl : lv_has ls 6 [(0, .ref (ad 0)), (1, .int x1), (2, .int x2)] := hl
  clear hP0
  unfold f_X11_setPoint at hr
  refine lv_iload_n hx hb dX11_setPoint_0 rfl (lv_at hl 1 rfl) ?_
  refine lv_iconst (v := (0 : Int32)) hx hb dX11_setPoint_1 (by decide) ?_
  refine lv_ldc (v := (100000 : Int32)) hx hb hown (hts _ (wm 1 rfl)) dX11_setPoint_2 ?_
  obtain ⟨r_1, hc4, hr⟩ := ob1_e hr
  refine xk_i (va_runS (As := [.int x1, .int (0 : Int32), .int (100000 : Int32)]) (rest := []) ⟨hx, hb, hml, hown, hts⟩ (c_X11_in l D cA ad M x1 (0 : Int32) (100000 : Int32) hc4) (va_cwS 3 hts gX11_setPoint_X11_in rfl rfl rfl (by decide +kernel) ⟨Nat.le_of_ble_eq_true rfl, Nat.le_of_ble_eq_true rfl⟩) (xpreS hK hW) rfl rfl hl.1 rfl (lv_room (Nat.le_of_ble_eq_true rfl)) dX11_setPoint_4 ⟨Nat.le_of_ble_eq_true rfl, Nat.le_of_ble_eq_true rfl⟩) hW (fun H locs hW => ?_)
  refine lv_if_eq (tgt := 23) hx hb dX11_setPoint_7 (by decide) (fun c1 => ?_) (fun c1 => ?_)
  · have hr := br_p c1 hr
    refine lv_ldc (v := (-2000000002 : Int32)) hx hb hown (hts _ (wm 2 rfl)) dX11_setPoint_23 ?_
    obtain ⟨e1, e2⟩ := Prod.mk.inj (Option.some.inj hr)
    rw [← e1, ← e2]
    exact xiret hx hb hr0 hlocks hW adR_rf dX11_setPoint_25
  · have hr := br_n c1 hr
    refine lv_iload_n hx hb dX11_setPoint_10 rfl (lv_at hl 2 rfl) ?_
    refine lv_sipush (v := (500 : Int32)) hx hb dX11_setPoint_11 (by decide) ?_
    refine lv_sipush (v := (1500 : Int32)) hx hb dX11_setPoint_14 (by decide) ?_
    obtain ⟨r_2, hc17, hr⟩ := ob1_e hr
    refine xk_i (va_runS (As := [.int x2, .int (500 : Int32), .int (1500 : Int32)]) (rest := []) ⟨hx, hb, hml, hown, hts⟩ (c_X11_in l D cA ad M x2 (500 : Int32) (1500 : Int32) hc17) (va_cwS 3 hts gX11_setPoint_X11_in rfl rfl rfl (by decide +kernel) ⟨Nat.le_of_ble_eq_true rfl, Nat.le_of_ble_eq_true rfl⟩) (xpreS hK hW) rfl rfl hl.1 rfl (lv_room (Nat.le_of_ble_eq_true rfl)) dX11_setPoint_17 ⟨Nat.le_of_ble_eq_true rfl, Nat.le_of_ble_eq_true rfl⟩) hW (fun H locs hW => ?_)
    refine lv_if_ne (tgt := 26) hx hb dX11_setPoint_20 (by decide) (fun c1 => ?_) (fun c1 => ?_)
    · have hr := br_n c1 hr
      refine lv_aload_n hx hb dX11_setPoint_26 rfl (lv_at hl 0 rfl) ?_
      refine lv_iload_n hx hb dX11_setPoint_27 rfl (lv_at hl 1 rfl) ?_
      obtain ⟨r_3, hc28, hr⟩ := ob1_e hr
      refine xk_i (va_runV (As := [.int x1]) (rest := []) ⟨hx, hb, hml, hown, hts⟩ (c_X11_placeOf l D cA ad M x1 hc28) (cwV 1 hts gX11_setPoint_X11_placeOf rfl rfl rfl (by decide +kernel) ⟨Nat.le_of_ble_eq_true rfl, Nat.le_of_ble_eq_true rfl⟩) (xpreV hK hW (k := 0) rfl (by decide) rfl) rfl rfl hl.1 rfl (lv_room (Nat.le_of_ble_eq_true rfl)) dX11_setPoint_28 ⟨Nat.le_of_ble_eq_true rfl, Nat.le_of_ble_eq_true rfl⟩) hW (fun H locs hW => ?_)
      refine lv_istore_n (lv' := [(3, .int r_3), (0, .ref (ad 0)), (1, .int x1), (2, .int x2)]) hx hb dX11_setPoint_31 rfl hl (by decide) rfl (fun ls hl => ?_)
      refine lv_iload_n hx hb dX11_setPoint_32 rfl (lv_at hl 0 rfl) ?_
      refine lv_aload_n hx hb dX11_setPoint_33 rfl (lv_at hl 1 rfl) ?_
      refine g11_0 hx hb hts hi11 hown hK hW (k := 0) rfl (hts _ (wm 3 rfl)) dX11_setPoint_34 ?_
      refine lv_bipush (v := (65 : Int32)) hx hb dX11_setPoint_37 (by decide) ?_
      refine xiald hx hb hK hW (k := 1) (t := 24) rfl (by decide) (by decide) rfl (n := 159) (by decide) (jx := 65) (by decide) dX11_setPoint_39 ?_
      obtain ⟨y_4, hr, hr3⟩ := ob1_e hr
      have hj57_4 : ∀ (H : Heap) (locs : List Loc) (ls : Array Slot), Xw D false cA ad M (AX false ad) s.heap H locs → lv_has ls 6 [(3, .int r_3), (0, .ref (ad 0)), (1, .int x1), (2, .int x2)] → W p l e (headSpec wsX11_setPoint { frames := 2, cells := 0, slots := 0, locals := 43 }).room s m args below meth c H locs 0 0 (MQ below (QiX false D false cA ad r M') args s 0 0 (AX false ad)) (F0 m 57 ls [.int y_4]) := by
        intro H locs ls hW hl
        have hr := hr3
        refine lv_istore (lv' := [(4, .int y_4), (3, .int r_3), (0, .ref (ad 0)), (1, .int x1), (2, .int x2)]) hx hb dX11_setPoint_57 hl (by decide) rfl (fun ls hl => ?_)
        refine lv_iload hx hb dX11_setPoint_59 (lv_at hl 0 rfl) ?_
        refine lv_if_ne (tgt := 79) hx hb dX11_setPoint_61 (by decide) (fun c1 => ?_) (fun c1 => ?_)
        · have hr := br_n c1 hr
          refine lv_aload_n hx hb dX11_setPoint_79 rfl (lv_at hl 2 rfl) ?_
          obtain ⟨M_6, hc80, hr⟩ := ob1_e hr
          refine xk_v (va_runV (As := []) (rest := []) ⟨hx, hb, hml, hown, hts⟩ (c_X11_records l D cA ad M hc80) (cwV 0 hts gX11_setPoint_X11_records rfl rfl rfl (by decide +kernel) ⟨Nat.le_of_ble_eq_true rfl, Nat.le_of_ble_eq_true rfl⟩) (xpreV hK hW (k := 0) rfl (by decide) rfl) rfl rfl hl.1 rfl (lv_room (Nat.le_of_ble_eq_true rfl)) dX11_setPoint_80 ⟨Nat.le_of_ble_eq_true rfl, Nat.le_of_ble_eq_true rfl⟩) hW (fun H locs hW => ?_)
          refine lv_aload_n hx hb dX11_setPoint_83 rfl (lv_at hl 2 rfl) ?_
          refine g11_0 hx hb hts hi11 hown hK hW (k := 0) rfl (hts _ (wm 3 rfl)) dX11_setPoint_84 ?_
          refine lv_bipush (v := (65 : Int32)) hx hb dX11_setPoint_87 (by decide) ?_
          refine xiald hx hb hK hW (k := 1) (t := 24) rfl (by decide) (by decide) rfl (n := 159) (by decide) (jx := 65) (by decide) dX11_setPoint_89 ?_
          obtain ⟨x5_7, ex5_7, hr⟩ := lt1_e hr
          rw [← ex5_7]
          refine lv_istore (lv' := [(5, .int x5_7), (4, .int y_4), (3, .int r_3), (0, .ref (ad 0)), (1, .int x1), (2, .int x2)]) hx hb dX11_setPoint_90 hl (by decide) rfl (fun ls hl => ?_)
          have hL92_1 : ∀ (n : Nat) (x5_8 : Int32) (M_9 : Mm) (H : Heap) (locs : List Loc) (ls : Array Slot) (M_10 : Mm), Xw D false cA ad M_9 (AX false ad) s.heap H locs → lv_has ls 6 [(4, .int y_4), (3, .int r_3), (0, .ref (ad 0)), (1, .int x1), (2, .int x2), (5, .int x5_8)] → f_X11_setPoint_L92 r_3 y_4 n x5_8 M_9 = some M_10 → (∀ (H : Heap) (locs : List Loc) (ls : Array Slot), Xw D false cA ad M_10 (AX false ad) s.heap H locs → lv_has ls 6 [(4, .int y_4), (3, .int r_3), (0, .ref (ad 0)), (1, .int x1), (2, .int x2)] → W p l e (headSpec wsX11_setPoint { frames := 2, cells := 0, slots := 0, locals := 43 }).room s m args below meth c H locs 0 0 (MQ below (QiX false D false cA ad r M') args s 0 0 (AX false ad)) (F0 m 151 ls [])) → W p l e (headSpec wsX11_setPoint { frames := 2, cells := 0, slots := 0, locals := 43 }).room s m args below meth c H locs 0 0 (MQ below (QiX false D false cA ad r M') args s 0 0 (AX false ad)) (F0 m 92 ls []) := by
            intro n
            induction n with
            | zero =>
              intro x5_8 M_9 H locs ls M_10 hW hl hr hk
              exact absurd hr (by simp [f_X11_setPoint_L92])
            | succ n ih =>
              intro x5_8 M_9 H locs ls M_10 hW hl hr hk
              rw [f_X11_setPoint_L92] at hr
              refine lv_iload hx hb dX11_setPoint_92 (lv_at hl 5 rfl) ?_
              refine lv_iload_n hx hb dX11_setPoint_94 rfl (lv_at hl 1 rfl) ?_
              refine lv_icmp_le (tgt := 151) hx hb dX11_setPoint_95 (by decide) (fun c1 => ?_) (fun c1 => ?_)
              · have hr := br_p c1 hr
                have e1 := Option.some.inj hr
                subst e1
                exact hk _ _ _ hW (lv_sub hl [0, 1, 2, 3, 4] rfl)
              · have hr := br_n c1 hr
                refine lv_iload hx hb dX11_setPoint_98 (lv_at hl 0 rfl) ?_
                refine lv_if_ne (tgt := 151) hx hb dX11_setPoint_100 (by decide) (fun c1 => ?_) (fun c1 => ?_)
                · have hr := br_n c1 hr
                  have e1 := Option.some.inj hr
                  subst e1
                  exact hk _ _ _ hW (lv_sub hl [0, 1, 2, 3, 4] rfl)
                · have hr := br_p c1 hr
                  refine lv_aload_n hx hb dX11_setPoint_103 rfl (lv_at hl 2 rfl) ?_
                  refine g11_0 hx hb hts hi11 hown hK hW (k := 0) rfl (hts _ (wm 3 rfl)) dX11_setPoint_104 ?_
                  refine lv_bipush (v := (66 : Int32)) hx hb dX11_setPoint_107 (by decide) ?_
                  refine lv_iconst (v := (2 : Int32)) hx hb dX11_setPoint_109 (by decide) ?_
                  refine lv_iload hx hb dX11_setPoint_110 (lv_at hl 5 rfl) ?_
                  refine lv_imul hx hb dX11_setPoint_112 ?_
                  refine lv_iadd hx hb dX11_setPoint_113 ?_
                  refine lv_aload_n hx hb dX11_setPoint_114 rfl (lv_at hl 2 rfl) ?_
                  refine lv_iload hx hb dX11_setPoint_115 (lv_at hl 5 rfl) ?_
                  refine lv_iconst (v := (1 : Int32)) hx hb dX11_setPoint_117 (by decide) ?_
                  refine lv_isub hx hb dX11_setPoint_118 ?_
                  obtain ⟨r_11, hc119, hr⟩ := ob1_e hr
                  refine xk_i (va_runV (As := [.int (x5_8 - (1 : Int32))]) (rest := [.int ((66 : Int32) + ((2 : Int32) * x5_8)), .ref (ad 1)]) ⟨hx, hb, hml, hown, hts⟩ (c_X11_speedAt l D cA ad M_9 (x5_8 - (1 : Int32)) hc119) (cwV 1 hts gX11_setPoint_X11_speedAt rfl rfl rfl (by decide +kernel) ⟨Nat.le_of_ble_eq_true rfl, Nat.le_of_ble_eq_true rfl⟩) (xpreV hK hW (k := 0) rfl (by decide) rfl) rfl rfl hl.1 rfl (lv_room (Nat.le_of_ble_eq_true rfl)) dX11_setPoint_119 ⟨Nat.le_of_ble_eq_true rfl, Nat.le_of_ble_eq_true rfl⟩) hW (fun H locs hW => ?_)
                  obtain ⟨hn122, hr⟩ := chk_e hr
                  obtain ⟨M_12, eM_12, hr⟩ := lt1_e hr
                  refine xiast hx hb hK hW (k := 1) (t := 24) rfl (by decide) (by decide) rfl (n := 159) hn122 (jx := (ix ((66 : Int32) + ((2 : Int32) * x5_8)))) rfl dX11_setPoint_122 (fun H locs hW => ?_)
                  rw [← eM_12] at hW
                  refine lv_aload_n hx hb dX11_setPoint_123 rfl (lv_at hl 2 rfl) ?_
                  refine g11_0 hx hb hts hi11 hown hK hW (k := 0) rfl (hts _ (wm 3 rfl)) dX11_setPoint_124 ?_
                  refine lv_bipush (v := (66 : Int32)) hx hb dX11_setPoint_127 (by decide) ?_
                  refine lv_iconst (v := (2 : Int32)) hx hb dX11_setPoint_129 (by decide) ?_
                  refine lv_iload hx hb dX11_setPoint_130 (lv_at hl 5 rfl) ?_
                  refine lv_imul hx hb dX11_setPoint_132 ?_
                  refine lv_iadd hx hb dX11_setPoint_133 ?_
                  refine lv_iconst (v := (1 : Int32)) hx hb dX11_setPoint_134 (by decide) ?_
                  refine lv_iadd hx hb dX11_setPoint_135 ?_
                  refine lv_aload_n hx hb dX11_setPoint_136 rfl (lv_at hl 2 rfl) ?_
                  refine lv_iload hx hb dX11_setPoint_137 (lv_at hl 5 rfl) ?_
                  refine lv_iconst (v := (1 : Int32)) hx hb dX11_setPoint_139 (by decide) ?_
                  refine lv_isub hx hb dX11_setPoint_140 ?_
                  obtain ⟨r_13, hc141, hr⟩ := ob1_e hr
                  refine xk_i (va_runV (As := [.int (x5_8 - (1 : Int32))]) (rest := [.int (((66 : Int32) + ((2 : Int32) * x5_8)) + (1 : Int32)), .ref (ad 1)]) ⟨hx, hb, hml, hown, hts⟩ (c_X11_factorAt l D cA ad M_12 (x5_8 - (1 : Int32)) hc141) (cwV 1 hts gX11_setPoint_X11_factorAt rfl rfl rfl (by decide +kernel) ⟨Nat.le_of_ble_eq_true rfl, Nat.le_of_ble_eq_true rfl⟩) (xpreV hK hW (k := 0) rfl (by decide) rfl) rfl rfl hl.1 rfl (lv_room (Nat.le_of_ble_eq_true rfl)) dX11_setPoint_141 ⟨Nat.le_of_ble_eq_true rfl, Nat.le_of_ble_eq_true rfl⟩) hW (fun H locs hW => ?_)
                  obtain ⟨hn144, hr⟩ := chk_e hr
                  obtain ⟨M_14, eM_14, hr⟩ := lt1_e hr
                  refine xiast hx hb hK hW (k := 1) (t := 24) rfl (by decide) (by decide) rfl (n := 159) hn144 (jx := (ix (((66 : Int32) + ((2 : Int32) * x5_8)) + (1 : Int32)))) rfl dX11_setPoint_144 (fun H locs hW => ?_)
                  rw [← eM_14] at hW
                  obtain ⟨x5_15, ex5_15, hr⟩ := lt1_e hr
                  refine lv_iinc (v := x5_15) (lv' := [(5, .int x5_15), (4, .int y_4), (3, .int r_3), (0, .ref (ad 0)), (1, .int x1), (2, .int x2)]) hx hb dX11_setPoint_145 hl (k := 5) rfl (by rw [ex5_15]; rfl) (by decide) rfl (fun ls hl => ?_)
                  refine lv_goto (tgt := 92) hx hb dX11_setPoint_148 (by decide) ?_
                  exact ih x5_15 M_14 _ _ _ _ hW (lv_sub hl [1, 2, 3, 4, 5, 0] rfl) hr hk
          obtain ⟨M_10, hr, hr3⟩ := ob1_e hr
          refine hL92_1 1000 x5_7 M_6 _ _ _ M_10 hW (lv_sub hl [1, 2, 3, 4, 5, 0] rfl) hr (fun H locs ls hW hl => ?_)
          clear hr
          have hr := hr3
          refine lv_aload_n hx hb dX11_setPoint_151 rfl (lv_at hl 2 rfl) ?_
          refine g11_0 hx hb hts hi11 hown hK hW (k := 0) rfl (hts _ (wm 3 rfl)) dX11_setPoint_152 ?_
          refine lv_bipush (v := (66 : Int32)) hx hb dX11_setPoint_155 (by decide) ?_
          refine lv_iconst (v := (2 : Int32)) hx hb dX11_setPoint_157 (by decide) ?_
          refine lv_iload_n hx hb dX11_setPoint_158 rfl (lv_at hl 1 rfl) ?_
          refine lv_imul hx hb dX11_setPoint_159 ?_
          refine lv_iadd hx hb dX11_setPoint_160 ?_
          refine lv_iload_n hx hb dX11_setPoint_161 rfl (lv_at hl 3 rfl) ?_
          obtain ⟨hn162, hr⟩ := chk_e hr
          obtain ⟨M_16, eM_16, hr⟩ := lt1_e hr
          refine xiast hx hb hK hW (k := 1) (t := 24) rfl (by decide) (by decide) rfl (n := 159) hn162 (jx := (ix ((66 : Int32) + ((2 : Int32) * r_3)))) rfl dX11_setPoint_162 (fun H locs hW => ?_)
          rw [← eM_16] at hW
          refine lv_aload_n hx hb dX11_setPoint_163 rfl (lv_at hl 2 rfl) ?_
          refine g11_0 hx hb hts hi11 hown hK hW (k := 0) rfl (hts _ (wm 3 rfl)) dX11_setPoint_164 ?_
          refine lv_bipush (v := (66 : Int32)) hx hb dX11_setPoint_167 (by decide) ?_
          refine lv_iconst (v := (2 : Int32)) hx hb dX11_setPoint_169 (by decide) ?_
          refine lv_iload_n hx hb dX11_setPoint_170 rfl (lv_at hl 1 rfl) ?_
          refine lv_imul hx hb dX11_setPoint_171 ?_
          refine lv_iadd hx hb dX11_setPoint_172 ?_
          refine lv_iconst (v := (1 : Int32)) hx hb dX11_setPoint_173 (by decide) ?_
          refine lv_iadd hx hb dX11_setPoint_174 ?_
          refine lv_iload_n hx hb dX11_setPoint_175 rfl (lv_at hl 4 rfl) ?_
          obtain ⟨hn176, hr⟩ := chk_e hr
          obtain ⟨M_17, eM_17, hr⟩ := lt1_e hr
          refine xiast hx hb hK hW (k := 1) (t := 24) rfl (by decide) (by decide) rfl (n := 159) hn176 (jx := (ix (((66 : Int32) + ((2 : Int32) * r_3)) + (1 : Int32)))) rfl dX11_setPoint_176 (fun H locs hW => ?_)
          rw [← eM_17] at hW
          refine lv_aload_n hx hb dX11_setPoint_177 rfl (lv_at hl 2 rfl) ?_
          refine g11_0 hx hb hts hi11 hown hK hW (k := 0) rfl (hts _ (wm 3 rfl)) dX11_setPoint_178 ?_
          refine lv_bipush (v := (65 : Int32)) hx hb dX11_setPoint_181 (by decide) ?_
          refine lv_dup2_11 hx hb dX11_setPoint_183 rfl rfl ?_
          refine xiald hx hb hK hW (k := 1) (t := 24) rfl (by decide) (by decide) rfl (n := 159) (by decide) (jx := 65) (by decide) dX11_setPoint_184 ?_
          refine lv_iload hx hb dX11_setPoint_185 (lv_at hl 0 rfl) ?_
          obtain ⟨y_18, hr, hr3⟩ := ob1_e hr
          have hj195_18 : ∀ (H : Heap) (locs : List Loc) (ls : Array Slot), Xw D false cA ad M_17 (AX false ad) s.heap H locs → lv_has ls 6 [(0, .ref (ad 0))] → W p l e (headSpec wsX11_setPoint { frames := 2, cells := 0, slots := 0, locals := 43 }).room s m args below meth c H locs 0 0 (MQ below (QiX false D false cA ad r M') args s 0 0 (AX false ad)) (F0 m 195 ls [.int y_18, .int (gI M_17 1 65), .int (65 : Int32), .ref (ad 1)]) := by
            intro H locs ls hW hl
            have hr := hr3
            refine lv_iadd hx hb dX11_setPoint_195 ?_
            obtain ⟨M_19, eM_19, hr⟩ := lt1_e hr
            refine xiast hx hb hK hW (k := 1) (t := 24) rfl (by decide) (by decide) rfl (n := 159) (by decide) (jx := 65) (by decide) dX11_setPoint_196 (fun H locs hW => ?_)
            rw [← eM_19] at hW
            refine lv_aload_n hx hb dX11_setPoint_197 rfl (lv_at hl 0 rfl) ?_
            refine g11_0 hx hb hts hi11 hown hK hW (k := 0) rfl (hts _ (wm 3 rfl)) dX11_setPoint_198 ?_
            refine lv_bipush (v := (65 : Int32)) hx hb dX11_setPoint_201 (by decide) ?_
            refine xiald hx hb hK hW (k := 1) (t := 24) rfl (by decide) (by decide) rfl (n := 159) (by decide) (jx := 65) (by decide) dX11_setPoint_203 ?_
            obtain ⟨e1, e2⟩ := Prod.mk.inj (Option.some.inj hr)
            rw [← e1, ← e2]
            exact xiret hx hb hr0 hlocks hW adR_rf dX11_setPoint_204
          clear hr3
          refine lv_if_eq (tgt := 194) hx hb dX11_setPoint_187 (by decide) (fun c1 => ?_) (fun c1 => ?_)
          · have hr := br_p c1 hr
            refine lv_iconst (v := (1 : Int32)) hx hb dX11_setPoint_194 (by decide) ?_
            have e1 := Option.some.inj hr
            subst e1
            exact hj195_18 _ _ _ hW (lv_sub hl [2] rfl)
          · have hr := br_n c1 hr
            refine lv_iconst (v := (0 : Int32)) hx hb dX11_setPoint_190 (by decide) ?_
            refine lv_goto (tgt := 195) hx hb dX11_setPoint_191 (by decide) ?_
            have e1 := Option.some.inj hr
            subst e1
            exact hj195_18 _ _ _ hW (lv_sub hl [2] rfl)
        · have hr := br_p c1 hr
          refine lv_aload_n hx hb dX11_setPoint_64 rfl (lv_at hl 2 rfl) ?_
          refine g11_0 hx hb hts hi11 hown hK hW (k := 0) rfl (hts _ (wm 3 rfl)) dX11_setPoint_65 ?_
          refine lv_bipush (v := (65 : Int32)) hx hb dX11_setPoint_68 (by decide) ?_
          refine xiald hx hb hK hW (k := 1) (t := 24) rfl (by decide) (by decide) rfl (n := 159) (by decide) (jx := 65) (by decide) dX11_setPoint_70 ?_
          refine lv_bipush (v := (6 : Int32)) hx hb dX11_setPoint_71 (by decide) ?_
          refine lv_icmp_ne (tgt := 79) hx hb dX11_setPoint_73 (by decide) (fun c1 => ?_) (fun c1 => ?_)
          · have hr := br_n c1 hr
            refine lv_aload_n hx hb dX11_setPoint_79 rfl (lv_at hl 2 rfl) ?_
            obtain ⟨M_20, hc80, hr⟩ := ob1_e hr
            refine xk_v (va_runV (As := []) (rest := []) ⟨hx, hb, hml, hown, hts⟩ (c_X11_records l D cA ad M hc80) (cwV 0 hts gX11_setPoint_X11_records rfl rfl rfl (by decide +kernel) ⟨Nat.le_of_ble_eq_true rfl, Nat.le_of_ble_eq_true rfl⟩) (xpreV hK hW (k := 0) rfl (by decide) rfl) rfl rfl hl.1 rfl (lv_room (Nat.le_of_ble_eq_true rfl)) dX11_setPoint_80 ⟨Nat.le_of_ble_eq_true rfl, Nat.le_of_ble_eq_true rfl⟩) hW (fun H locs hW => ?_)
            refine lv_aload_n hx hb dX11_setPoint_83 rfl (lv_at hl 2 rfl) ?_
            refine g11_0 hx hb hts hi11 hown hK hW (k := 0) rfl (hts _ (wm 3 rfl)) dX11_setPoint_84 ?_
            refine lv_bipush (v := (65 : Int32)) hx hb dX11_setPoint_87 (by decide) ?_
            refine xiald hx hb hK hW (k := 1) (t := 24) rfl (by decide) (by decide) rfl (n := 159) (by decide) (jx := 65) (by decide) dX11_setPoint_89 ?_
            obtain ⟨x5_21, ex5_21, hr⟩ := lt1_e hr
            rw [← ex5_21]
            refine lv_istore (lv' := [(5, .int x5_21), (4, .int y_4), (3, .int r_3), (0, .ref (ad 0)), (1, .int x1), (2, .int x2)]) hx hb dX11_setPoint_90 hl (by decide) rfl (fun ls hl => ?_)
            have hL92_2 : ∀ (n : Nat) (x5_22 : Int32) (M_23 : Mm) (H : Heap) (locs : List Loc) (ls : Array Slot) (M_24 : Mm), Xw D false cA ad M_23 (AX false ad) s.heap H locs → lv_has ls 6 [(4, .int y_4), (3, .int r_3), (0, .ref (ad 0)), (1, .int x1), (2, .int x2), (5, .int x5_22)] → f_X11_setPoint_L92_2 r_3 y_4 n x5_22 M_23 = some M_24 → (∀ (H : Heap) (locs : List Loc) (ls : Array Slot), Xw D false cA ad M_24 (AX false ad) s.heap H locs → lv_has ls 6 [(4, .int y_4), (3, .int r_3), (0, .ref (ad 0)), (1, .int x1), (2, .int x2)] → W p l e (headSpec wsX11_setPoint { frames := 2, cells := 0, slots := 0, locals := 43 }).room s m args below meth c H locs 0 0 (MQ below (QiX false D false cA ad r M') args s 0 0 (AX false ad)) (F0 m 151 ls [])) → W p l e (headSpec wsX11_setPoint { frames := 2, cells := 0, slots := 0, locals := 43 }).room s m args below meth c H locs 0 0 (MQ below (QiX false D false cA ad r M') args s 0 0 (AX false ad)) (F0 m 92 ls []) := by
              intro n
              induction n with
              | zero =>
                intro x5_22 M_23 H locs ls M_24 hW hl hr hk
                exact absurd hr (by simp [f_X11_setPoint_L92_2])
              | succ n ih =>
                intro x5_22 M_23 H locs ls M_24 hW hl hr hk
                rw [f_X11_setPoint_L92_2] at hr
                refine lv_iload hx hb dX11_setPoint_92 (lv_at hl 5 rfl) ?_
                refine lv_iload_n hx hb dX11_setPoint_94 rfl (lv_at hl 1 rfl) ?_
                refine lv_icmp_le (tgt := 151) hx hb dX11_setPoint_95 (by decide) (fun c1 => ?_) (fun c1 => ?_)
                · have hr := br_p c1 hr
                  have e1 := Option.some.inj hr
                  subst e1
                  exact hk _ _ _ hW (lv_sub hl [0, 1, 2, 3, 4] rfl)
                · have hr := br_n c1 hr
                  refine lv_iload hx hb dX11_setPoint_98 (lv_at hl 0 rfl) ?_
                  refine lv_if_ne (tgt := 151) hx hb dX11_setPoint_100 (by decide) (fun c1 => ?_) (fun c1 => ?_)
                  · have hr := br_n c1 hr
                    have e1 := Option.some.inj hr
                    subst e1
                    exact hk _ _ _ hW (lv_sub hl [0, 1, 2, 3, 4] rfl)
                  · have hr := br_p c1 hr
                    refine lv_aload_n hx hb dX11_setPoint_103 rfl (lv_at hl 2 rfl) ?_
                    refine g11_0 hx hb hts hi11 hown hK hW (k := 0) rfl (hts _ (wm 3 rfl)) dX11_setPoint_104 ?_
                    refine lv_bipush (v := (66 : Int32)) hx hb dX11_setPoint_107 (by decide) ?_
                    refine lv_iconst (v := (2 : Int32)) hx hb dX11_setPoint_109 (by decide) ?_
                    refine lv_iload hx hb dX11_setPoint_110 (lv_at hl 5 rfl) ?_
                    refine lv_imul hx hb dX11_setPoint_112 ?_
                    refine lv_iadd hx hb dX11_setPoint_113 ?_
                    refine lv_aload_n hx hb dX11_setPoint_114 rfl (lv_at hl 2 rfl) ?_
                    refine lv_iload hx hb dX11_setPoint_115 (lv_at hl 5 rfl) ?_
                    refine lv_iconst (v := (1 : Int32)) hx hb dX11_setPoint_117 (by decide) ?_
                    refine lv_isub hx hb dX11_setPoint_118 ?_
                    obtain ⟨r_25, hc119, hr⟩ := ob1_e hr
                    refine xk_i (va_runV (As := [.int (x5_22 - (1 : Int32))]) (rest := [.int ((66 : Int32) + ((2 : Int32) * x5_22)), .ref (ad 1)]) ⟨hx, hb, hml, hown, hts⟩ (c_X11_speedAt l D cA ad M_23 (x5_22 - (1 : Int32)) hc119) (cwV 1 hts gX11_setPoint_X11_speedAt rfl rfl rfl (by decide +kernel) ⟨Nat.le_of_ble_eq_true rfl, Nat.le_of_ble_eq_true rfl⟩) (xpreV hK hW (k := 0) rfl (by decide) rfl) rfl rfl hl.1 rfl (lv_room (Nat.le_of_ble_eq_true rfl)) dX11_setPoint_119 ⟨Nat.le_of_ble_eq_true rfl, Nat.le_of_ble_eq_true rfl⟩) hW (fun H locs hW => ?_)
                    obtain ⟨hn122, hr⟩ := chk_e hr
                    obtain ⟨M_26, eM_26, hr⟩ := lt1_e hr
                    refine xiast hx hb hK hW (k := 1) (t := 24) rfl (by decide) (by decide) rfl (n := 159) hn122 (jx := (ix ((66 : Int32) + ((2 : Int32) * x5_22)))) rfl dX11_setPoint_122 (fun H locs hW => ?_)
                    rw [← eM_26] at hW
                    refine lv_aload_n hx hb dX11_setPoint_123 rfl (lv_at hl 2 rfl) ?_
                    refine g11_0 hx hb hts hi11 hown hK hW (k := 0) rfl (hts _ (wm 3 rfl)) dX11_setPoint_124 ?_
                    refine lv_bipush (v := (66 : Int32)) hx hb dX11_setPoint_127 (by decide) ?_
                    refine lv_iconst (v := (2 : Int32)) hx hb dX11_setPoint_129 (by decide) ?_
                    refine lv_iload hx hb dX11_setPoint_130 (lv_at hl 5 rfl) ?_
                    refine lv_imul hx hb dX11_setPoint_132 ?_
                    refine lv_iadd hx hb dX11_setPoint_133 ?_
                    refine lv_iconst (v := (1 : Int32)) hx hb dX11_setPoint_134 (by decide) ?_
                    refine lv_iadd hx hb dX11_setPoint_135 ?_
                    refine lv_aload_n hx hb dX11_setPoint_136 rfl (lv_at hl 2 rfl) ?_
                    refine lv_iload hx hb dX11_setPoint_137 (lv_at hl 5 rfl) ?_
                    refine lv_iconst (v := (1 : Int32)) hx hb dX11_setPoint_139 (by decide) ?_
                    refine lv_isub hx hb dX11_setPoint_140 ?_
                    obtain ⟨r_27, hc141, hr⟩ := ob1_e hr
                    refine xk_i (va_runV (As := [.int (x5_22 - (1 : Int32))]) (rest := [.int (((66 : Int32) + ((2 : Int32) * x5_22)) + (1 : Int32)), .ref (ad 1)]) ⟨hx, hb, hml, hown, hts⟩ (c_X11_factorAt l D cA ad M_26 (x5_22 - (1 : Int32)) hc141) (cwV 1 hts gX11_setPoint_X11_factorAt rfl rfl rfl (by decide +kernel) ⟨Nat.le_of_ble_eq_true rfl, Nat.le_of_ble_eq_true rfl⟩) (xpreV hK hW (k := 0) rfl (by decide) rfl) rfl rfl hl.1 rfl (lv_room (Nat.le_of_ble_eq_true rfl)) dX11_setPoint_141 ⟨Nat.le_of_ble_eq_true rfl, Nat.le_of_ble_eq_true rfl⟩) hW (fun H locs hW => ?_)
                    obtain ⟨hn144, hr⟩ := chk_e hr
                    obtain ⟨M_28, eM_28, hr⟩ := lt1_e hr
                    refine xiast hx hb hK hW (k := 1) (t := 24) rfl (by decide) (by decide) rfl (n := 159) hn144 (jx := (ix (((66 : Int32) + ((2 : Int32) * x5_22)) + (1 : Int32)))) rfl dX11_setPoint_144 (fun H locs hW => ?_)
                    rw [← eM_28] at hW
                    obtain ⟨x5_29, ex5_29, hr⟩ := lt1_e hr
                    refine lv_iinc (v := x5_29) (lv' := [(5, .int x5_29), (4, .int y_4), (3, .int r_3), (0, .ref (ad 0)), (1, .int x1), (2, .int x2)]) hx hb dX11_setPoint_145 hl (k := 5) rfl (by rw [ex5_29]; rfl) (by decide) rfl (fun ls hl => ?_)
                    refine lv_goto (tgt := 92) hx hb dX11_setPoint_148 (by decide) ?_
                    exact ih x5_29 M_28 _ _ _ _ hW (lv_sub hl [1, 2, 3, 4, 5, 0] rfl) hr hk
            obtain ⟨M_24, hr, hr3⟩ := ob1_e hr
            refine hL92_2 1000 x5_21 M_20 _ _ _ M_24 hW (lv_sub hl [1, 2, 3, 4, 5, 0] rfl) hr (fun H locs ls hW hl => ?_)
            clear hr
            have hr := hr3
            refine lv_aload_n hx hb dX11_setPoint_151 rfl (lv_at hl 2 rfl) ?_
            refine g11_0 hx hb hts hi11 hown hK hW (k := 0) rfl (hts _ (wm 3 rfl)) dX11_setPoint_152 ?_
            refine lv_bipush (v := (66 : Int32)) hx hb dX11_setPoint_155 (by decide) ?_
            refine lv_iconst (v := (2 : Int32)) hx hb dX11_setPoint_157 (by decide) ?_
            refine lv_iload_n hx hb dX11_setPoint_158 rfl (lv_at hl 1 rfl) ?_
            refine lv_imul hx hb dX11_setPoint_159 ?_
            refine lv_iadd hx hb dX11_setPoint_160 ?_
            refine lv_iload_n hx hb dX11_setPoint_161 rfl (lv_at hl 3 rfl) ?_
            obtain ⟨hn162, hr⟩ := chk_e hr
            obtain ⟨M_30, eM_30, hr⟩ := lt1_e hr
            refine xiast hx hb hK hW (k := 1) (t := 24) rfl (by decide) (by decide) rfl (n := 159) hn162 (jx := (ix ((66 : Int32) + ((2 : Int32) * r_3)))) rfl dX11_setPoint_162 (fun H locs hW => ?_)
            rw [← eM_30] at hW
            refine lv_aload_n hx hb dX11_setPoint_163 rfl (lv_at hl 2 rfl) ?_
            refine g11_0 hx hb hts hi11 hown hK hW (k := 0) rfl (hts _ (wm 3 rfl)) dX11_setPoint_164 ?_
            refine lv_bipush (v := (66 : Int32)) hx hb dX11_setPoint_167 (by decide) ?_
            refine lv_iconst (v := (2 : Int32)) hx hb dX11_setPoint_169 (by decide) ?_
            refine lv_iload_n hx hb dX11_setPoint_170 rfl (lv_at hl 1 rfl) ?_
            refine lv_imul hx hb dX11_setPoint_171 ?_
            refine lv_iadd hx hb dX11_setPoint_172 ?_
            refine lv_iconst (v := (1 : Int32)) hx hb dX11_setPoint_173 (by decide) ?_
            refine lv_iadd hx hb dX11_setPoint_174 ?_
            refine lv_iload_n hx hb dX11_setPoint_175 rfl (lv_at hl 4 rfl) ?_
            obtain ⟨hn176, hr⟩ := chk_e hr
            obtain ⟨M_31, eM_31, hr⟩ := lt1_e hr
            refine xiast hx hb hK hW (k := 1) (t := 24) rfl (by decide) (by decide) rfl (n := 159) hn176 (jx := (ix (((66 : Int32) + ((2 : Int32) * r_3)) + (1 : Int32)))) rfl dX11_setPoint_176 (fun H locs hW => ?_)
            rw [← eM_31] at hW
            refine lv_aload_n hx hb dX11_setPoint_177 rfl (lv_at hl 2 rfl) ?_
            refine g11_0 hx hb hts hi11 hown hK hW (k := 0) rfl (hts _ (wm 3 rfl)) dX11_setPoint_178 ?_
            refine lv_bipush (v := (65 : Int32)) hx hb dX11_setPoint_181 (by decide) ?_
            refine lv_dup2_11 hx hb dX11_setPoint_183 rfl rfl ?_
            refine xiald hx hb hK hW (k := 1) (t := 24) rfl (by decide) (by decide) rfl (n := 159) (by decide) (jx := 65) (by decide) dX11_setPoint_184 ?_
            refine lv_iload hx hb dX11_setPoint_185 (lv_at hl 0 rfl) ?_
            obtain ⟨y_32, hr, hr3⟩ := ob1_e hr
            have hj195_32 : ∀ (H : Heap) (locs : List Loc) (ls : Array Slot), Xw D false cA ad M_31 (AX false ad) s.heap H locs → lv_has ls 6 [(0, .ref (ad 0))] → W p l e (headSpec wsX11_setPoint { frames := 2, cells := 0, slots := 0, locals := 43 }).room s m args below meth c H locs 0 0 (MQ below (QiX false D false cA ad r M') args s 0 0 (AX false ad)) (F0 m 195 ls [.int y_32, .int (gI M_31 1 65), .int (65 : Int32), .ref (ad 1)]) := by
              intro H locs ls hW hl
              have hr := hr3
              refine lv_iadd hx hb dX11_setPoint_195 ?_
              obtain ⟨M_33, eM_33, hr⟩ := lt1_e hr
              refine xiast hx hb hK hW (k := 1) (t := 24) rfl (by decide) (by decide) rfl (n := 159) (by decide) (jx := 65) (by decide) dX11_setPoint_196 (fun H locs hW => ?_)
              rw [← eM_33] at hW
              refine lv_aload_n hx hb dX11_setPoint_197 rfl (lv_at hl 0 rfl) ?_
              refine g11_0 hx hb hts hi11 hown hK hW (k := 0) rfl (hts _ (wm 3 rfl)) dX11_setPoint_198 ?_
              refine lv_bipush (v := (65 : Int32)) hx hb dX11_setPoint_201 (by decide) ?_
              refine xiald hx hb hK hW (k := 1) (t := 24) rfl (by decide) (by decide) rfl (n := 159) (by decide) (jx := 65) (by decide) dX11_setPoint_203 ?_
              obtain ⟨e1, e2⟩ := Prod.mk.inj (Option.some.inj hr)
              rw [← e1, ← e2]
              exact xiret hx hb hr0 hlocks hW adR_rf dX11_setPoint_204
            clear hr3
            refine lv_if_eq (tgt := 194) hx hb dX11_setPoint_187 (by decide) (fun c1 => ?_) (fun c1 => ?_)
            · have hr := br_p c1 hr
              refine lv_iconst (v := (1 : Int32)) hx hb dX11_setPoint_194 (by decide) ?_
              have e1 := Option.some.inj hr
              subst e1
              exact hj195_32 _ _ _ hW (lv_sub hl [2] rfl)
            · have hr := br_n c1 hr
              refine lv_iconst (v := (0 : Int32)) hx hb dX11_setPoint_190 (by decide) ?_
              refine lv_goto (tgt := 195) hx hb dX11_setPoint_191 (by decide) ?_
              have e1 := Option.some.inj hr
              subst e1
              exact hj195_32 _ _ _ hW (lv_sub hl [2] rfl)
          · have hr := br_p c1 hr
            refine lv_ldc (v := (-2000000004 : Int32)) hx hb hown (hts _ (wm 4 rfl)) dX11_setPoint_76 ?_
            obtain ⟨e1, e2⟩ := Prod.mk.inj (Option.some.inj hr)
            rw [← e1, ← e2]
            exact xiret hx hb hr0 hlocks hW adR_rf dX11_setPoint_78
      clear hr3
      refine lv_icmp_ge (tgt := 56) hx hb dX11_setPoint_40 (by decide) (fun c1 => ?_) (fun c1 => ?_)
      · have hr := br_p c1 hr
        refine lv_iconst (v := (0 : Int32)) hx hb dX11_setPoint_56 (by decide) ?_
        have e1 := Option.some.inj hr
        subst e1
        exact hj57_4 _ _ _ hW (lv_sub hl [0, 1, 2, 3] rfl)
      · have hr := br_n c1 hr
        refine lv_aload_n hx hb dX11_setPoint_43 rfl (lv_at hl 1 rfl) ?_
        refine lv_iload_n hx hb dX11_setPoint_44 rfl (lv_at hl 0 rfl) ?_
        obtain ⟨r_5, hc45, hr⟩ := ob1_e hr
        refine xk_i (va_runV (As := [.int r_3]) (rest := []) ⟨hx, hb, hml, hown, hts⟩ (c_X11_speedAt l D cA ad M r_3 hc45) (cwV 1 hts gX11_setPoint_X11_speedAt rfl rfl rfl (by decide +kernel) ⟨Nat.le_of_ble_eq_true rfl, Nat.le_of_ble_eq_true rfl⟩) (xpreV hK hW (k := 0) rfl (by decide) rfl) rfl rfl hl.1 rfl (lv_room (Nat.le_of_ble_eq_true rfl)) dX11_setPoint_45 ⟨Nat.le_of_ble_eq_true rfl, Nat.le_of_ble_eq_true rfl⟩) hW (fun H locs hW => ?_)
        refine lv_iload_n hx hb dX11_setPoint_48 rfl (lv_at hl 2 rfl) ?_
        refine lv_icmp_ne (tgt := 56) hx hb dX11_setPoint_49 (by decide) (fun c1 => ?_) (fun c1 => ?_)
        · have hr := br_n c1 hr
          refine lv_iconst (v := (0 : Int32)) hx hb dX11_setPoint_56 (by decide) ?_
          have e1 := Option.some.inj hr
          subst e1
          exact hj57_4 _ _ _ hW (lv_sub hl [0, 1, 2, 3] rfl)
        · have hr := br_p c1 hr
          refine lv_iconst (v := (1 : Int32)) hx hb dX11_setPoint_52 (by decide) ?_
          refine lv_goto (tgt := 57) hx hb dX11_setPoint_53 (by decide) ?_
          have e1 := Option.some.inj hr
          subst e1
          exact hj57_4 _ _ _ hW (lv_sub hl [0, 1, 2, 3] rfl)
    · have hr := br_p c1 hr
      refine lv_ldc (v := (-2000000002 : Int32)) hx hb hown (hts _ (wm 2 rfl)) dX11_setPoint_23 ?_
      obtain ⟨e1, e2⟩ := Prod.mk.inj (Option.some.inj hr)
      rw [← e1, ← e2]
      exact xiret hx hb hr0 hlocks hW adR_rf dX11_setPoint_25

set_option maxHeartbeats 4000000 in
set_option maxRecDepth 100000 in
theorem c_X11_removePoint (l : Launch) (D : va_G) (cA : Nat → ClassId) (ad : Nat → Nat) (M : Mm) (x1 : Int32) {r : Int32} {M' : Mm} (hr : f_X11_removePoint x1 M = some (r, M')) : Met l yX11_removePoint wsX11_removePoint ({ frames := 2, cells := 0, slots := 0, locals := 43 }) (PcX D false cA ad M [.ref (ad 0), .int x1]) (QiX false D false cA ad r M') 0 0 (AX false ad) := by
  refine Met.ofW (cc := cX11_removePoint) (maxL := 5) (ret := (some .int)) (by decide) rfl ?_
  intro p e s m args below meth c s₁ B hml hv
  obtain ⟨hav, hP0, hK⟩ := hv
  have hx := B.exec
  have hb := B.bytes
  have hr0 := B.returns
  have hts := atoms_spec (ws := wsX11_removePoint) B.pre
  have hown : s.vm.findClass RX11 = some m.cls := findClass_of_methodNamed B.named
  have hlocks := B.notSynchronized
  have hW := xstart hP0
  have hi11 : ∀ w ∈ wsX110, w ∈ wsX11_removePoint := fun w h => List.mem_cons_of_mem _ (List.mem_append_right _ h)
  have hl := lv_entry ([.ref (ad 0), .int x1]) (n := 5) (Nat.le_of_ble_eq_true rfl)
  have hef := lg_entry_eq m ([.ref (ad 0), .int x1]) 5
  rw [← hav] at hef
  rw [hef]
  clear hef
  generalize (lg_sl ([.ref (ad 0), .int x1]) ++ List.replicate (5 - (lg_sl ([.ref (ad 0), .int x1])).length) Slot.unset).toArray = ls at hl ⊢
  have hl : lv_has ls 5 [(0, .ref (ad 0)), (1, .int x1)] := hl
  clear hP0
  unfold f_X11_removePoint at hr
  refine lv_iload_n hx hb dX11_removePoint_0 rfl (lv_at hl 1 rfl) ?_
  refine lv_iconst (v := (0 : Int32)) hx hb dX11_removePoint_1 (by decide) ?_
  refine lv_ldc (v := (100000 : Int32)) hx hb hown (hts _ (wm 1 rfl)) dX11_removePoint_2 ?_
  obtain ⟨r_1, hc4, hr⟩ := ob1_e hr
  refine xk_i (va_runS (As := [.int x1, .int (0 : Int32), .int (100000 : Int32)]) (rest := []) ⟨hx, hb, hml, hown, hts⟩ (c_X11_in l D cA ad M x1 (0 : Int32) (100000 : Int32) hc4) (va_cwS 3 hts gX11_removePoint_X11_in rfl rfl rfl (by decide +kernel) ⟨Nat.le_of_ble_eq_true rfl, Nat.le_of_ble_eq_true rfl⟩) (xpreS hK hW) rfl rfl hl.1 rfl (lv_room (Nat.le_of_ble_eq_true rfl)) dX11_removePoint_4 ⟨Nat.le_of_ble_eq_true rfl, Nat.le_of_ble_eq_true rfl⟩) hW (fun H locs hW => ?_)
  refine lv_if_ne (tgt := 13) hx hb dX11_removePoint_7 (by decide) (fun c1 => ?_) (fun c1 => ?_)
  · have hr := br_n c1 hr
    refine lv_aload_n hx hb dX11_removePoint_13 rfl (lv_at hl 0 rfl) ?_
    refine lv_iload_n hx hb dX11_removePoint_14 rfl (lv_at hl 1 rfl) ?_
    obtain ⟨r_2, hc15, hr⟩ := ob1_e hr
    refine xk_i (va_runV (As := [.int x1]) (rest := []) ⟨hx, hb, hml, hown, hts⟩ (c_X11_placeOf l D cA ad M x1 hc15) (cwV 1 hts gX11_removePoint_X11_placeOf rfl rfl rfl (by decide +kernel) ⟨Nat.le_of_ble_eq_true rfl, Nat.le_of_ble_eq_true rfl⟩) (xpreV hK hW (k := 0) rfl (by decide) rfl) rfl rfl hl.1 rfl (lv_room (Nat.le_of_ble_eq_true rfl)) dX11_removePoint_15 ⟨Nat.le_of_ble_eq_true rfl, Nat.le_of_ble_eq_true rfl⟩) hW (fun H locs hW => ?_)
    refine lv_istore_n (lv' := [(2, .int r_2), (0, .ref (ad 0)), (1, .int x1)]) hx hb dX11_removePoint_18 rfl hl (by decide) rfl (fun ls hl => ?_)
    refine lv_iload_n hx hb dX11_removePoint_19 rfl (lv_at hl 0 rfl) ?_
    refine lv_aload_n hx hb dX11_removePoint_20 rfl (lv_at hl 1 rfl) ?_
    refine g11_0 hx hb hts hi11 hown hK hW (k := 0) rfl (hts _ (wm 3 rfl)) dX11_removePoint_21 ?_
    refine lv_bipush (v := (65 : Int32)) hx hb dX11_removePoint_24 (by decide) ?_
    refine xiald hx hb hK hW (k := 1) (t := 24) rfl (by decide) (by decide) rfl (n := 159) (by decide) (jx := 65) (by decide) dX11_removePoint_26 ?_
    refine lv_icmp_eq (tgt := 39) hx hb dX11_removePoint_27 (by decide) (fun c1 => ?_) (fun c1 => ?_)
    · have hr := br_p c1 hr
      refine lv_ldc (v := (-2000000003 : Int32)) hx hb hown (hts _ (wm 4 rfl)) dX11_removePoint_39 ?_
      obtain ⟨e1, e2⟩ := Prod.mk.inj (Option.some.inj hr)
      rw [← e1, ← e2]
      exact xiret hx hb hr0 hlocks hW adR_rf dX11_removePoint_41
    · have hr := br_n c1 hr
      refine lv_aload_n hx hb dX11_removePoint_30 rfl (lv_at hl 1 rfl) ?_
      refine lv_iload_n hx hb dX11_removePoint_31 rfl (lv_at hl 0 rfl) ?_
      obtain ⟨r_3, hc32, hr⟩ := ob1_e hr
      refine xk_i (va_runV (As := [.int r_2]) (rest := []) ⟨hx, hb, hml, hown, hts⟩ (c_X11_speedAt l D cA ad M r_2 hc32) (cwV 1 hts gX11_removePoint_X11_speedAt rfl rfl rfl (by decide +kernel) ⟨Nat.le_of_ble_eq_true rfl, Nat.le_of_ble_eq_true rfl⟩) (xpreV hK hW (k := 0) rfl (by decide) rfl) rfl rfl hl.1 rfl (lv_room (Nat.le_of_ble_eq_true rfl)) dX11_removePoint_32 ⟨Nat.le_of_ble_eq_true rfl, Nat.le_of_ble_eq_true rfl⟩) hW (fun H locs hW => ?_)
      refine lv_iload_n hx hb dX11_removePoint_35 rfl (lv_at hl 2 rfl) ?_
      refine lv_icmp_eq (tgt := 42) hx hb dX11_removePoint_36 (by decide) (fun c1 => ?_) (fun c1 => ?_)
      · have hr := br_p c1 hr
        refine lv_aload_n hx hb dX11_removePoint_42 rfl (lv_at hl 1 rfl) ?_
        obtain ⟨M_4, hc43, hr⟩ := ob1_e hr
        refine xk_v (va_runV (As := []) (rest := []) ⟨hx, hb, hml, hown, hts⟩ (c_X11_records l D cA ad M hc43) (cwV 0 hts gX11_removePoint_X11_records rfl rfl rfl (by decide +kernel) ⟨Nat.le_of_ble_eq_true rfl, Nat.le_of_ble_eq_true rfl⟩) (xpreV hK hW (k := 0) rfl (by decide) rfl) rfl rfl hl.1 rfl (lv_room (Nat.le_of_ble_eq_true rfl)) dX11_removePoint_43 ⟨Nat.le_of_ble_eq_true rfl, Nat.le_of_ble_eq_true rfl⟩) hW (fun H locs hW => ?_)
        refine lv_aload_n hx hb dX11_removePoint_46 rfl (lv_at hl 1 rfl) ?_
        refine lv_iload_n hx hb dX11_removePoint_47 rfl (lv_at hl 0 rfl) ?_
        obtain ⟨r_5, hc48, hr⟩ := ob1_e hr
        refine xk_i (va_runV (As := [.int r_2]) (rest := []) ⟨hx, hb, hml, hown, hts⟩ (c_X11_factorAt l D cA ad M_4 r_2 hc48) (cwV 1 hts gX11_removePoint_X11_factorAt rfl rfl rfl (by decide +kernel) ⟨Nat.le_of_ble_eq_true rfl, Nat.le_of_ble_eq_true rfl⟩) (xpreV hK hW (k := 0) rfl (by decide) rfl) rfl rfl hl.1 rfl (lv_room (Nat.le_of_ble_eq_true rfl)) dX11_removePoint_48 ⟨Nat.le_of_ble_eq_true rfl, Nat.le_of_ble_eq_true rfl⟩) hW (fun H locs hW => ?_)
        refine lv_istore_n (lv' := [(3, .int r_5), (2, .int r_2), (0, .ref (ad 0)), (1, .int x1)]) hx hb dX11_removePoint_51 rfl hl (by decide) rfl (fun ls hl => ?_)
        refine lv_iload_n hx hb dX11_removePoint_52 rfl (lv_at hl 1 rfl) ?_
        refine lv_istore (lv' := [(4, .int r_2), (3, .int r_5), (2, .int r_2), (0, .ref (ad 0)), (1, .int x1)]) hx hb dX11_removePoint_53 hl (by decide) rfl (fun ls hl => ?_)
        have hL55_1 : ∀ (n : Nat) (x4_6 : Int32) (M_7 : Mm) (H : Heap) (locs : List Loc) (ls : Array Slot) (M_8 : Mm), Xw D false cA ad M_7 (AX false ad) s.heap H locs → lv_has ls 5 [(3, .int r_5), (0, .ref (ad 0)), (4, .int x4_6)] → f_X11_removePoint_L55 n x4_6 M_7 = some M_8 → (∀ (H : Heap) (locs : List Loc) (ls : Array Slot), Xw D false cA ad M_8 (AX false ad) s.heap H locs → lv_has ls 5 [(3, .int r_5), (0, .ref (ad 0))] → W p l e (headSpec wsX11_removePoint { frames := 2, cells := 0, slots := 0, locals := 43 }).room s m args below meth c H locs 0 0 (MQ below (QiX false D false cA ad r M') args s 0 0 (AX false ad)) (F0 m 117 ls [])) → W p l e (headSpec wsX11_removePoint { frames := 2, cells := 0, slots := 0, locals := 43 }).room s m args below meth c H locs 0 0 (MQ below (QiX false D false cA ad r M') args s 0 0 (AX false ad)) (F0 m 55 ls []) := by
          intro n
          induction n with
          | zero =>
            intro x4_6 M_7 H locs ls M_8 hW hl hr hk
            exact absurd hr (by simp [f_X11_removePoint_L55])
          | succ n ih =>
            intro x4_6 M_7 H locs ls M_8 hW hl hr hk
            rw [f_X11_removePoint_L55] at hr
            refine lv_iload hx hb dX11_removePoint_55 (lv_at hl 2 rfl) ?_
            refine lv_iconst (v := (1 : Int32)) hx hb dX11_removePoint_57 (by decide) ?_
            refine lv_iadd hx hb dX11_removePoint_58 ?_
            refine lv_aload_n hx hb dX11_removePoint_59 rfl (lv_at hl 1 rfl) ?_
            refine g11_0 hx hb hts hi11 hown hK hW (k := 0) rfl (hts _ (wm 3 rfl)) dX11_removePoint_60 ?_
            refine lv_bipush (v := (65 : Int32)) hx hb dX11_removePoint_63 (by decide) ?_
            refine xiald hx hb hK hW (k := 1) (t := 24) rfl (by decide) (by decide) rfl (n := 159) (by decide) (jx := 65) (by decide) dX11_removePoint_65 ?_
            refine lv_icmp_ge (tgt := 117) hx hb dX11_removePoint_66 (by decide) (fun c1 => ?_) (fun c1 => ?_)
            · have hr := br_p c1 hr
              have e1 := Option.some.inj hr
              subst e1
              exact hk _ _ _ hW (lv_sub hl [0, 1] rfl)
            · have hr := br_n c1 hr
              refine lv_aload_n hx hb dX11_removePoint_69 rfl (lv_at hl 1 rfl) ?_
              refine g11_0 hx hb hts hi11 hown hK hW (k := 0) rfl (hts _ (wm 3 rfl)) dX11_removePoint_70 ?_
              refine lv_bipush (v := (66 : Int32)) hx hb dX11_removePoint_73 (by decide) ?_
              refine lv_iconst (v := (2 : Int32)) hx hb dX11_removePoint_75 (by decide) ?_
              refine lv_iload hx hb dX11_removePoint_76 (lv_at hl 2 rfl) ?_
              refine lv_imul hx hb dX11_removePoint_78 ?_
              refine lv_iadd hx hb dX11_removePoint_79 ?_
              refine lv_aload_n hx hb dX11_removePoint_80 rfl (lv_at hl 1 rfl) ?_
              refine lv_iload hx hb dX11_removePoint_81 (lv_at hl 2 rfl) ?_
              refine lv_iconst (v := (1 : Int32)) hx hb dX11_removePoint_83 (by decide) ?_
              refine lv_iadd hx hb dX11_removePoint_84 ?_
              obtain ⟨r_9, hc85, hr⟩ := ob1_e hr
              refine xk_i (va_runV (As := [.int (x4_6 + (1 : Int32))]) (rest := [.int ((66 : Int32) + ((2 : Int32) * x4_6)), .ref (ad 1)]) ⟨hx, hb, hml, hown, hts⟩ (c_X11_speedAt l D cA ad M_7 (x4_6 + (1 : Int32)) hc85) (cwV 1 hts gX11_removePoint_X11_speedAt rfl rfl rfl (by decide +kernel) ⟨Nat.le_of_ble_eq_true rfl, Nat.le_of_ble_eq_true rfl⟩) (xpreV hK hW (k := 0) rfl (by decide) rfl) rfl rfl hl.1 rfl (lv_room (Nat.le_of_ble_eq_true rfl)) dX11_removePoint_85 ⟨Nat.le_of_ble_eq_true rfl, Nat.le_of_ble_eq_true rfl⟩) hW (fun H locs hW => ?_)
              obtain ⟨hn88, hr⟩ := chk_e hr
              obtain ⟨M_10, eM_10, hr⟩ := lt1_e hr
              refine xiast hx hb hK hW (k := 1) (t := 24) rfl (by decide) (by decide) rfl (n := 159) hn88 (jx := (ix ((66 : Int32) + ((2 : Int32) * x4_6)))) rfl dX11_removePoint_88 (fun H locs hW => ?_)
              rw [← eM_10] at hW
              refine lv_aload_n hx hb dX11_removePoint_89 rfl (lv_at hl 1 rfl) ?_
              refine g11_0 hx hb hts hi11 hown hK hW (k := 0) rfl (hts _ (wm 3 rfl)) dX11_removePoint_90 ?_
              refine lv_bipush (v := (66 : Int32)) hx hb dX11_removePoint_93 (by decide) ?_
              refine lv_iconst (v := (2 : Int32)) hx hb dX11_removePoint_95 (by decide) ?_
              refine lv_iload hx hb dX11_removePoint_96 (lv_at hl 2 rfl) ?_
              refine lv_imul hx hb dX11_removePoint_98 ?_
              refine lv_iadd hx hb dX11_removePoint_99 ?_
              refine lv_iconst (v := (1 : Int32)) hx hb dX11_removePoint_100 (by decide) ?_
              refine lv_iadd hx hb dX11_removePoint_101 ?_
              refine lv_aload_n hx hb dX11_removePoint_102 rfl (lv_at hl 1 rfl) ?_
              refine lv_iload hx hb dX11_removePoint_103 (lv_at hl 2 rfl) ?_
              refine lv_iconst (v := (1 : Int32)) hx hb dX11_removePoint_105 (by decide) ?_
              refine lv_iadd hx hb dX11_removePoint_106 ?_
              obtain ⟨r_11, hc107, hr⟩ := ob1_e hr
              refine xk_i (va_runV (As := [.int (x4_6 + (1 : Int32))]) (rest := [.int (((66 : Int32) + ((2 : Int32) * x4_6)) + (1 : Int32)), .ref (ad 1)]) ⟨hx, hb, hml, hown, hts⟩ (c_X11_factorAt l D cA ad M_10 (x4_6 + (1 : Int32)) hc107) (cwV 1 hts gX11_removePoint_X11_factorAt rfl rfl rfl (by decide +kernel) ⟨Nat.le_of_ble_eq_true rfl, Nat.le_of_ble_eq_true rfl⟩) (xpreV hK hW (k := 0) rfl (by decide) rfl) rfl rfl hl.1 rfl (lv_room (Nat.le_of_ble_eq_true rfl)) dX11_removePoint_107 ⟨Nat.le_of_ble_eq_true rfl, Nat.le_of_ble_eq_true rfl⟩) hW (fun H locs hW => ?_)
              obtain ⟨hn110, hr⟩ := chk_e hr
              obtain ⟨M_12, eM_12, hr⟩ := lt1_e hr
              refine xiast hx hb hK hW (k := 1) (t := 24) rfl (by decide) (by decide) rfl (n := 159) hn110 (jx := (ix (((66 : Int32) + ((2 : Int32) * x4_6)) + (1 : Int32)))) rfl dX11_removePoint_110 (fun H locs hW => ?_)
              rw [← eM_12] at hW
              obtain ⟨x4_13, ex4_13, hr⟩ := lt1_e hr
              refine lv_iinc (v := x4_13) (lv' := [(4, .int x4_13), (3, .int r_5), (0, .ref (ad 0))]) hx hb dX11_removePoint_111 hl (k := 2) rfl (by rw [ex4_13]; rfl) (by decide) rfl (fun ls hl => ?_)
              refine lv_goto (tgt := 55) hx hb dX11_removePoint_114 (by decide) ?_
              exact ih x4_13 M_12 _ _ _ _ hW (lv_sub hl [1, 2, 0] rfl) hr hk
        obtain ⟨M_8, hr, hr3⟩ := ob1_e hr
        refine hL55_1 1000 r_2 M_4 _ _ _ M_8 hW (lv_sub hl [1, 3, 0] rfl) hr (fun H locs ls hW hl => ?_)
        clear hr
        have hr := hr3
        refine lv_aload_n hx hb dX11_removePoint_117 rfl (lv_at hl 1 rfl) ?_
        refine g11_0 hx hb hts hi11 hown hK hW (k := 0) rfl (hts _ (wm 3 rfl)) dX11_removePoint_118 ?_
        refine lv_bipush (v := (65 : Int32)) hx hb dX11_removePoint_121 (by decide) ?_
        refine lv_dup2_11 hx hb dX11_removePoint_123 rfl rfl ?_
        refine xiald hx hb hK hW (k := 1) (t := 24) rfl (by decide) (by decide) rfl (n := 159) (by decide) (jx := 65) (by decide) dX11_removePoint_124 ?_
        refine lv_iconst (v := (1 : Int32)) hx hb dX11_removePoint_125 (by decide) ?_
        refine lv_isub hx hb dX11_removePoint_126 ?_
        obtain ⟨M_14, eM_14, hr⟩ := lt1_e hr
        refine xiast hx hb hK hW (k := 1) (t := 24) rfl (by decide) (by decide) rfl (n := 159) (by decide) (jx := 65) (by decide) dX11_removePoint_127 (fun H locs hW => ?_)
        rw [← eM_14] at hW
        refine lv_iload_n hx hb dX11_removePoint_128 rfl (lv_at hl 0 rfl) ?_
        obtain ⟨e1, e2⟩ := Prod.mk.inj (Option.some.inj hr)
        rw [← e1, ← e2]
        exact xiret hx hb hr0 hlocks hW adR_rf dX11_removePoint_129
      · have hr := br_n c1 hr
        refine lv_ldc (v := (-2000000003 : Int32)) hx hb hown (hts _ (wm 4 rfl)) dX11_removePoint_39 ?_
        obtain ⟨e1, e2⟩ := Prod.mk.inj (Option.some.inj hr)
        rw [← e1, ← e2]
        exact xiret hx hb hr0 hlocks hW adR_rf dX11_removePoint_41
  · have hr := br_p c1 hr
    refine lv_ldc (v := (-2000000002 : Int32)) hx hb hown (hts _ (wm 2 rfl)) dX11_removePoint_10 ?_
    obtain ⟨e1, e2⟩ := Prod.mk.inj (Option.some.inj hr)
    rw [← e1, ← e2]
    exact xiret hx hb hr0 hlocks hW adR_rf dX11_removePoint_12

set_option maxHeartbeats 4000000 in
set_option maxRecDepth 100000 in
theorem c_X11_least (l : Launch) (D : va_G) (cA : Nat → ClassId) (ad : Nat → Nat) (M : Mm) (x0 : Int32) {r : Int32} (hr : f_X11_least x0 M = some r) : Met l yX11_least wsX11_least ({ frames := 0, cells := 0, slots := 0, locals := 0 }) (PcX D false cA ad M [.int x0]) (QiX false D false cA ad r M) 0 0 (AX false ad) := by
  refine Met.ofW (cc := cX11_least) (maxL := 1) (ret := (some .int)) (by decide) rfl ?_
  intro p e s m args below meth c s₁ B hml hv
  obtain ⟨hav, hP0, hK⟩ := hv
  have hx := B.exec
  have hb := B.bytes
  have hr0 := B.returns
  have hts := atoms_spec (ws := wsX11_least) B.pre
  have hown : s.vm.findClass RX11 = some m.cls := findClass_of_methodNamed B.named
  have hlocks := B.notSynchronized
  have hW := xstart hP0
  have hl := lv_entry ([.int x0]) (n := 1) (Nat.le_of_ble_eq_true rfl)
  have hef := lg_entry_eq m ([.int x0]) 1
  rw [← hav] at hef
  rw [hef]
  clear hef
  generalize (lg_sl ([.int x0]) ++ List.replicate (1 - (lg_sl ([.int x0])).length) Slot.unset).toArray = ls at hl ⊢
  have hl : lv_has ls 1 [(0, .int x0)] := hl
  clear hP0
  unfold f_X11_least at hr
  refine lv_iload_n hx hb dX11_least_0 rfl (lv_at hl 0 rfl) ?_
  refine lv_iconst (v := (2 : Int32)) hx hb dX11_least_1 (by decide) ?_
  refine lv_icmp_ge (tgt := 9) hx hb dX11_least_2 (by decide) (fun c1 => ?_) (fun c1 => ?_)
  · have hr := br_p c1 hr
    refine lv_iconst (v := (1 : Int32)) hx hb dX11_least_9 (by decide) ?_
    rw [← Option.some.inj hr]
    exact xiret hx hb hr0 hlocks hW adR_rf dX11_least_10
  · have hr := br_n c1 hr
    refine lv_iconst (v := (0 : Int32)) hx hb dX11_least_5 (by decide) ?_
    refine lv_goto (tgt := 10) hx hb dX11_least_6 (by decide) ?_
    rw [← Option.some.inj hr]
    exact xiret hx hb hr0 hlocks hW adR_rf dX11_least_10

set_option maxHeartbeats 4000000 in
set_option maxRecDepth 100000 in
theorem c_X11_most (l : Launch) (D : va_G) (cA : Nat → ClassId) (ad : Nat → Nat) (M : Mm) (x0 : Int32) {r : Int32} (hr : f_X11_most x0 M = some r) : Met l yX11_most wsX11_most ({ frames := 0, cells := 0, slots := 0, locals := 0 }) (PcX D false cA ad M [.int x0]) (QiX false D false cA ad r M) 0 0 (AX false ad) := by
  refine Met.ofW (cc := cX11_most) (maxL := 1) (ret := (some .int)) (by decide) rfl ?_
  intro p e s m args below meth c s₁ B hml hv
  obtain ⟨hav, hP0, hK⟩ := hv
  have hx := B.exec
  have hb := B.bytes
  have hr0 := B.returns
  have hts := atoms_spec (ws := wsX11_most) B.pre
  have hown : s.vm.findClass RX11 = some m.cls := findClass_of_methodNamed B.named
  have hlocks := B.notSynchronized
  have hW := xstart hP0
  have hl := lv_entry ([.int x0]) (n := 1) (Nat.le_of_ble_eq_true rfl)
  have hef := lg_entry_eq m ([.int x0]) 1
  rw [← hav] at hef
  rw [hef]
  clear hef
  generalize (lg_sl ([.int x0]) ++ List.replicate (1 - (lg_sl ([.int x0])).length) Slot.unset).toArray = ls at hl ⊢
  have hl : lv_has ls 1 [(0, .int x0)] := hl
  clear hP0
  unfold f_X11_most at hr
  refine lv_iload_n hx hb dX11_most_0 rfl (lv_at hl 0 rfl) ?_
  by_cases c1_0 : x0 = (0 : Int32)
  · have hr := br_p c1_0 hr
    refine lv_tableIn (tgt := 32) hx hb dX11_most_1 (by rw [c1_0]; decide) (by rw [c1_0]; decide) (off := 31) (by rw [c1_0]; decide) (by decide) ?_
    refine lv_bipush (v := (100 : Int32)) hx hb dX11_most_32 (by decide) ?_
    rw [← Option.some.inj hr]
    exact xiret hx hb hr0 hlocks hW adR_rf dX11_most_34
  · have hr := br_n c1_0 hr
    by_cases c1_1 : x0 = (1 : Int32)
    · have hr := br_p c1_1 hr
      refine lv_tableIn (tgt := 35) hx hb dX11_most_1 (by rw [c1_1]; decide) (by rw [c1_1]; decide) (off := 34) (by rw [c1_1]; decide) (by decide) ?_
      refine lv_iconst (v := (5 : Int32)) hx hb dX11_most_35 (by decide) ?_
      rw [← Option.some.inj hr]
      exact xiret hx hb hr0 hlocks hW adR_rf dX11_most_36
    · have hr := br_n c1_1 hr
      by_cases c1_2 : x0 = (2 : Int32)
      · have hr := br_p c1_2 hr
        refine lv_tableIn (tgt := 32) hx hb dX11_most_1 (by rw [c1_2]; decide) (by rw [c1_2]; decide) (off := 31) (by rw [c1_2]; decide) (by decide) ?_
        refine lv_bipush (v := (100 : Int32)) hx hb dX11_most_32 (by decide) ?_
        rw [← Option.some.inj hr]
        exact xiret hx hb hr0 hlocks hW adR_rf dX11_most_34
      · have hr := br_n c1_2 hr
        by_cases c1_3 : x0 = (3 : Int32)
        · have hr := br_p c1_3 hr
          refine lv_tableIn (tgt := 37) hx hb dX11_most_1 (by rw [c1_3]; decide) (by rw [c1_3]; decide) (off := 36) (by rw [c1_3]; decide) (by decide) ?_
          refine lv_ldc (v := (1000000 : Int32)) hx hb hown (hts _ (wm 1 rfl)) dX11_most_37 ?_
          rw [← Option.some.inj hr]
          exact xiret hx hb hr0 hlocks hW adR_rf dX11_most_39
        · have hr := br_n c1_3 hr
          have hsw : x0.toInt < 0 ∨ 3 < x0.toInt := by
            have hsw0 := lv_neT c1_0 (a := 0) rfl
            have hsw1 := lv_neT c1_1 (a := 1) rfl
            have hsw2 := lv_neT c1_2 (a := 2) rfl
            have hsw3 := lv_neT c1_3 (a := 3) rfl
            omega
          refine lv_tableOut (tgt := 40) hx hb dX11_most_1 hsw (by decide) ?_
          refine lv_sipush (v := (1000 : Int32)) hx hb dX11_most_40 (by decide) ?_
          rw [← Option.some.inj hr]
          exact xiret hx hb hr0 hlocks hW adR_rf dX11_most_43

def f_X11_readNumber_L13 (x1 : Int32) (x4_1 : Int32) : Nat → Mm → Option Mm
  | 0, _ => none
  | n + 1, M_3 =>
ob1 (f_X11_here M_3) fun r_5 =>
ob1 (f_X11_in r_5 (48 : Int32) (57 : Int32) M_3) fun r_6 =>
(if r_6 = (0 : Int32) then (
some M_3) else (
(if (x4_1 + (7 : Int32)) ≤ (gI M_3 0 21) then (
some M_3) else (
(if (gI M_3 0 21) = x4_1 then (
chk (inb x1 4) <|
ob1 (f_X11_here M_3) fun r_7 =>
chk (inb x1 4) <|
lt1 (wI M_3 15 (ix x1) ((((10 : Int32) * (gI M_3 15 (ix x1))) + r_7) - (48 : Int32))) fun M_8 =>
lt1 (wI M_8 0 21 ((gI M_8 0 21) + (1 : Int32))) fun M_9 =>
f_X11_readNumber_L13 x1 x4_1 n M_9) else (
chk (inb x4_1 100) <|
(if (gI M_3 8 (ix x4_1)) = (48 : Int32) then (
some M_3) else (
chk (inb x1 4) <|
ob1 (f_X11_here M_3) fun r_10 =>
chk (inb x1 4) <|
lt1 (wI M_3 15 (ix x1) ((((10 : Int32) * (gI M_3 15 (ix x1))) + r_10) - (48 : Int32))) fun M_11 =>
lt1 (wI M_11 0 21 ((gI M_11 0 21) + (1 : Int32))) fun M_12 =>
f_X11_readNumber_L13 x1 x4_1 n M_12))))))))

def f_X11_readNumber (x1 : Int32) (x2 : Int32) (x3 : Int32) (M : Mm) : Option (Int32 × Mm) :=
lt1 ((gI M 0 21)) fun x4_1 =>
chk (inb x1 4) <|
lt1 (wI M 15 (ix x1) (0 : Int32)) fun M_2 =>
ob1 (f_X11_readNumber_L13 x1 x4_1 1000 M_2) fun M_4 =>
ob1 ((if (gI M_4 0 21) ≤ x4_1 then (
some (0 : Int32)) else (
chk (inb x1 4) <|
ob1 (f_X11_in (gI M_4 15 (ix x1)) x2 x3 M_4) fun r_14 =>
(if r_14 = (0 : Int32) then (
some (0 : Int32)) else (
some (1 : Int32)))))) fun y_13 =>
ob1 ((if y_13 = (0 : Int32) then (
some x4_1) else (
some (gI M_4 0 21)))) fun y_15 =>
lt1 (wI M_4 0 21 y_15) fun M_16 =>
chk (bz y_13) <|
some (y_13, M_16)

set_option maxHeartbeats 4000000 in
set_option maxRecDepth 100000 in
theorem c_X11_readNumber (l : Launch) (D : va_G) (cA : Nat → ClassId) (ad : Nat → Nat) (M : Mm) (x1 : Int32) (x2 : Int32) (x3 : Int32) {r : Int32} {M' : Mm} (hr : f_X11_readNumber x1 x2 x3 M = some (r, M')) : Met l yX11_readNumber wsX11_readNumber ({ frames := 1, cells := 0, slots := 0, locals := 22 }) (PcX D false cA ad M [.ref (ad 0), .int x1, .int x2, .int x3]) (QiX false D false cA ad r M') 0 0 (AX false ad) := by
  refine Met.ofW (cc := cX11_readNumber) (maxL := 6) (ret := (some .boolean)) (by decide) rfl ?_
  intro p e s m args below meth c s₁ B hml hv
  obtain ⟨rfl, hP0, hK⟩ := hv
  have hx := B.exec
  have hb := B.bytes
  have hr0 := B.returns
  have hts := atoms_spec (ws := wsX11_readNumber) B.pre
  have hown : s.vm.findClass RX11 = some m.cls := findClass_of_methodNamed B.named
  have hlocks := B.notSynchronized
  have hW := xstart hP0
  have hi11 : ∀ w ∈ wsX110, w ∈ wsX11_readNumber := fun w h => List.mem_cons_of_mem _ (List.mem_append_right _ h)
  have hl := lv_entry ([.ref (ad 0), .int x1, .int x2, .int x3]) (n := 6) (Nat.le_of_ble_eq_true rfl)
  rw [lg_entry_eq]
  generalize (lg_sl ([.ref (ad 0), .int x1, .int x2, .int x3]) ++ List.replicate (6 - (lg_sl ([.ref (ad 0), .int x1, .int x2, .int x3])).length) Slot.unset).toArray = ls at hl ⊢
  have hl : lv_has ls 6 [(0, .ref (ad 0)), (1, .int x1), (2, .int x2), (3, .int x3)] := hl
  clear hP0
  unfold f_X11_readNumber at hr
  refine lv_aload_n hx hb dX11_readNumber_0 rfl (lv_at hl 0 rfl) ?_
  refine g11_21 hx hb hts hi11 hown hK hW (k := 0) rfl (hts _ (wm 1 rfl)) dX11_readNumber_1 ?_
  obtain ⟨x4_1, ex4_1, hr⟩ := lt1_e hr
  rw [← ex4_1]
  refine lv_istore (lv' := [(4, .int x4_1), (0, .ref (ad 0)), (1, .int x1), (2, .int x2), (3, .int x3)]) hx hb dX11_readNumber_4 hl (by decide) rfl (fun ls hl => ?_)
  refine lv_aload_n hx hb dX11_readNumber_6 rfl (lv_at hl 1 rfl) ?_
  refine g11_23 hx hb hts hi11 hown hK hW (k := 0) rfl (hts _ (wm 2 rfl)) dX11_readNumber_7 ?_
  refine lv_iload_n hx hb dX11_readNumber_10 rfl (lv_at hl 2 rfl) ?_
  refine lv_iconst (v := (0 : Int32)) hx hb dX11_readNumber_11 (by decide) ?_
  obtain ⟨hn12, hr⟩ := chk_e hr
  obtain ⟨M_2, eM_2, hr⟩ := lt1_e hr
  refine xiast hx hb hK hW (k := 15) (t := 20) rfl (by decide) (by decide) rfl (n := 4) hn12 (jx := (ix x1)) rfl dX11_readNumber_12 (fun H locs hW => ?_)
  rw [← eM_2] at hW
  have hL13_1 : ∀ (n : Nat) (M_3 : Mm) (H : Heap) (locs : List Loc) (ls : Array Slot) (M_4 : Mm), Xw D false cA ad M_3 (AX false ad) s.heap H locs → lv_has ls 6 [(4, .int x4_1), (0, .ref (ad 0)), (1, .int x1), (2, .int x2), (3, .int x3)] → f_X11_readNumber_L13 x1 x4_1 n M_3 = some M_4 → (∀ (H : Heap) (locs : List Loc) (ls : Array Slot), Xw D false cA ad M_4 (AX false ad) s.heap H locs → lv_has ls 6 [(4, .int x4_1), (0, .ref (ad 0)), (1, .int x1), (2, .int x2), (3, .int x3)] → W p l e (headSpec wsX11_readNumber { frames := 1, cells := 0, slots := 0, locals := 22 }).room s m args below meth c H locs 0 0 (MQ below (QiX false D false cA ad r M') args s 0 0 (AX false ad)) (F0 m 96 ls [])) → W p l e (headSpec wsX11_readNumber { frames := 1, cells := 0, slots := 0, locals := 22 }).room s m args below meth c H locs 0 0 (MQ below (QiX false D false cA ad r M') args s 0 0 (AX false ad)) (F0 m 13 ls []) := by
    intro n
    induction n with
    | zero =>
      intro M_3 H locs ls M_4 hW hl hr hk
      exact absurd hr (by simp [f_X11_readNumber_L13])
    | succ n ih =>
      intro M_3 H locs ls M_4 hW hl hr hk
      rw [f_X11_readNumber_L13] at hr
      refine lv_aload_n hx hb dX11_readNumber_13 rfl (lv_at hl 1 rfl) ?_
      obtain ⟨r_5, hc14, hr⟩ := ob1_e hr
      refine xk_i (va_runV (As := []) (rest := []) ⟨hx, hb, hml, hown, hts⟩ (c_X11_here l D cA ad M_3 hc14) (cwV 0 hts gX11_readNumber_X11_here rfl rfl rfl (by decide +kernel) ⟨Nat.le_of_ble_eq_true rfl, Nat.le_of_ble_eq_true rfl⟩) (xpreV hK hW (k := 0) rfl (by decide) rfl) rfl rfl hl.1 rfl (lv_room (Nat.le_of_ble_eq_true rfl)) dX11_readNumber_14 ⟨Nat.le_of_ble_eq_true rfl, Nat.le_of_ble_eq_true rfl⟩) hW (fun H locs hW => ?_)
      refine lv_bipush (v := (48 : Int32)) hx hb dX11_readNumber_17 (by decide) ?_
      refine lv_bipush (v := (57 : Int32)) hx hb dX11_readNumber_19 (by decide) ?_
      obtain ⟨r_6, hc21, hr⟩ := ob1_e hr
      refine xk_i (va_runS (As := [.int r_5, .int (48 : Int32), .int (57 : Int32)]) (rest := []) ⟨hx, hb, hml, hown, hts⟩ (c_X11_in l D cA ad M_3 r_5 (48 : Int32) (57 : Int32) hc21) (va_cwS 3 hts gX11_readNumber_X11_in rfl rfl rfl (by decide +kernel) ⟨Nat.le_of_ble_eq_true rfl, Nat.le_of_ble_eq_true rfl⟩) (xpreS hK hW) rfl rfl hl.1 rfl (lv_room (Nat.le_of_ble_eq_true rfl)) dX11_readNumber_21 ⟨Nat.le_of_ble_eq_true rfl, Nat.le_of_ble_eq_true rfl⟩) hW (fun H locs hW => ?_)
      refine lv_if_eq (tgt := 96) hx hb dX11_readNumber_24 (by decide) (fun c1 => ?_) (fun c1 => ?_)
      · have hr := br_p c1 hr
        have e1 := Option.some.inj hr
        subst e1
        exact hk _ _ _ hW (lv_sub hl [0, 1, 2, 3, 4] rfl)
      · have hr := br_n c1 hr
        refine lv_aload_n hx hb dX11_readNumber_27 rfl (lv_at hl 1 rfl) ?_
        refine g11_21 hx hb hts hi11 hown hK hW (k := 0) rfl (hts _ (wm 1 rfl)) dX11_readNumber_28 ?_
        refine lv_iload hx hb dX11_readNumber_31 (lv_at hl 0 rfl) ?_
        refine lv_bipush (v := (7 : Int32)) hx hb dX11_readNumber_33 (by decide) ?_
        refine lv_iadd hx hb dX11_readNumber_35 ?_
        refine lv_icmp_ge (tgt := 96) hx hb dX11_readNumber_36 (by decide) (fun c1 => ?_) (fun c1 => ?_)
        · have hr := br_p c1 hr
          have e1 := Option.some.inj hr
          subst e1
          exact hk _ _ _ hW (lv_sub hl [0, 1, 2, 3, 4] rfl)
        · have hr := br_n c1 hr
          refine lv_aload_n hx hb dX11_readNumber_39 rfl (lv_at hl 1 rfl) ?_
          refine g11_21 hx hb hts hi11 hown hK hW (k := 0) rfl (hts _ (wm 1 rfl)) dX11_readNumber_40 ?_
          refine lv_iload hx hb dX11_readNumber_43 (lv_at hl 0 rfl) ?_
          refine lv_icmp_eq (tgt := 60) hx hb dX11_readNumber_45 (by decide) (fun c1 => ?_) (fun c1 => ?_)
          · have hr := br_p c1 hr
            refine lv_aload_n hx hb dX11_readNumber_60 rfl (lv_at hl 1 rfl) ?_
            refine g11_23 hx hb hts hi11 hown hK hW (k := 0) rfl (hts _ (wm 2 rfl)) dX11_readNumber_61 ?_
            refine lv_iload_n hx hb dX11_readNumber_64 rfl (lv_at hl 2 rfl) ?_
            refine lv_bipush (v := (10 : Int32)) hx hb dX11_readNumber_65 (by decide) ?_
            refine lv_aload_n hx hb dX11_readNumber_67 rfl (lv_at hl 1 rfl) ?_
            refine g11_23 hx hb hts hi11 hown hK hW (k := 0) rfl (hts _ (wm 2 rfl)) dX11_readNumber_68 ?_
            refine lv_iload_n hx hb dX11_readNumber_71 rfl (lv_at hl 2 rfl) ?_
            obtain ⟨hn72, hr⟩ := chk_e hr
            refine xiald hx hb hK hW (k := 15) (t := 20) rfl (by decide) (by decide) rfl (n := 4) hn72 (jx := (ix x1)) rfl dX11_readNumber_72 ?_
            refine lv_imul hx hb dX11_readNumber_73 ?_
            refine lv_aload_n hx hb dX11_readNumber_74 rfl (lv_at hl 1 rfl) ?_
            obtain ⟨r_7, hc75, hr⟩ := ob1_e hr
            refine xk_i (va_runV (As := []) (rest := [.int ((10 : Int32) * (gI M_3 15 (ix x1))), .int x1, .ref (ad 15)]) ⟨hx, hb, hml, hown, hts⟩ (c_X11_here l D cA ad M_3 hc75) (cwV 0 hts gX11_readNumber_X11_here rfl rfl rfl (by decide +kernel) ⟨Nat.le_of_ble_eq_true rfl, Nat.le_of_ble_eq_true rfl⟩) (xpreV hK hW (k := 0) rfl (by decide) rfl) rfl rfl hl.1 rfl (lv_room (Nat.le_of_ble_eq_true rfl)) dX11_readNumber_75 ⟨Nat.le_of_ble_eq_true rfl, Nat.le_of_ble_eq_true rfl⟩) hW (fun H locs hW => ?_)
            refine lv_iadd hx hb dX11_readNumber_78 ?_
            refine lv_bipush (v := (48 : Int32)) hx hb dX11_readNumber_79 (by decide) ?_
            refine lv_isub hx hb dX11_readNumber_81 ?_
            obtain ⟨hn82, hr⟩ := chk_e hr
            obtain ⟨M_8, eM_8, hr⟩ := lt1_e hr
            refine xiast hx hb hK hW (k := 15) (t := 20) rfl (by decide) (by decide) rfl (n := 4) hn82 (jx := (ix x1)) rfl dX11_readNumber_82 (fun H locs hW => ?_)
            rw [← eM_8] at hW
            refine lv_aload_n hx hb dX11_readNumber_83 rfl (lv_at hl 1 rfl) ?_
            refine lv_dup hx hb dX11_readNumber_84 rfl ?_
            refine g11_21 hx hb hts hi11 hown hK hW (k := 0) rfl (hts _ (wm 1 rfl)) dX11_readNumber_85 ?_
            refine lv_iconst (v := (1 : Int32)) hx hb dX11_readNumber_88 (by decide) ?_
            refine lv_iadd hx hb dX11_readNumber_89 ?_
            obtain ⟨M_9, eM_9, hr⟩ := lt1_e hr
            refine p11_21 hx hb hts hi11 hown hK hW (k := 0) rfl (hts _ (wm 1 rfl)) dX11_readNumber_90 (fun H locs hW => ?_)
            rw [← eM_9] at hW
            refine lv_goto (tgt := 13) hx hb dX11_readNumber_93 (by decide) ?_
            exact ih M_9 _ _ _ hW (lv_sub hl [0, 1, 2, 3, 4] rfl) _ hr hk
          · have hr := br_n c1 hr
            refine lv_aload_n hx hb dX11_readNumber_48 rfl (lv_at hl 1 rfl) ?_
            refine g11_8 hx hb hts hi11 hown hK hW (k := 0) rfl (hts _ (wm 3 rfl)) dX11_readNumber_49 ?_
            refine lv_iload hx hb dX11_readNumber_52 (lv_at hl 0 rfl) ?_
            obtain ⟨hn54, hr⟩ := chk_e hr
            refine xiald hx hb hK hW (k := 8) (t := 23) rfl (by decide) (by decide) rfl (n := 100) hn54 (jx := (ix x4_1)) rfl dX11_readNumber_54 ?_
            refine lv_bipush (v := (48 : Int32)) hx hb dX11_readNumber_55 (by decide) ?_
            refine lv_icmp_eq (tgt := 96) hx hb dX11_readNumber_57 (by decide) (fun c1 => ?_) (fun c1 => ?_)
            · have hr := br_p c1 hr
              have e1 := Option.some.inj hr
              subst e1
              exact hk _ _ _ hW (lv_sub hl [0, 1, 2, 3, 4] rfl)
            · have hr := br_n c1 hr
              refine lv_aload_n hx hb dX11_readNumber_60 rfl (lv_at hl 1 rfl) ?_
              refine g11_23 hx hb hts hi11 hown hK hW (k := 0) rfl (hts _ (wm 2 rfl)) dX11_readNumber_61 ?_
              refine lv_iload_n hx hb dX11_readNumber_64 rfl (lv_at hl 2 rfl) ?_
              refine lv_bipush (v := (10 : Int32)) hx hb dX11_readNumber_65 (by decide) ?_
              refine lv_aload_n hx hb dX11_readNumber_67 rfl (lv_at hl 1 rfl) ?_
              refine g11_23 hx hb hts hi11 hown hK hW (k := 0) rfl (hts _ (wm 2 rfl)) dX11_readNumber_68 ?_
              refine lv_iload_n hx hb dX11_readNumber_71 rfl (lv_at hl 2 rfl) ?_
              obtain ⟨hn72, hr⟩ := chk_e hr
              refine xiald hx hb hK hW (k := 15) (t := 20) rfl (by decide) (by decide) rfl (n := 4) hn72 (jx := (ix x1)) rfl dX11_readNumber_72 ?_
              refine lv_imul hx hb dX11_readNumber_73 ?_
              refine lv_aload_n hx hb dX11_readNumber_74 rfl (lv_at hl 1 rfl) ?_
              obtain ⟨r_10, hc75, hr⟩ := ob1_e hr
              refine xk_i (va_runV (As := []) (rest := [.int ((10 : Int32) * (gI M_3 15 (ix x1))), .int x1, .ref (ad 15)]) ⟨hx, hb, hml, hown, hts⟩ (c_X11_here l D cA ad M_3 hc75) (cwV 0 hts gX11_readNumber_X11_here rfl rfl rfl (by decide +kernel) ⟨Nat.le_of_ble_eq_true rfl, Nat.le_of_ble_eq_true rfl⟩) (xpreV hK hW (k := 0) rfl (by decide) rfl) rfl rfl hl.1 rfl (lv_room (Nat.le_of_ble_eq_true rfl)) dX11_readNumber_75 ⟨Nat.le_of_ble_eq_true rfl, Nat.le_of_ble_eq_true rfl⟩) hW (fun H locs hW => ?_)
              refine lv_iadd hx hb dX11_readNumber_78 ?_
              refine lv_bipush (v := (48 : Int32)) hx hb dX11_readNumber_79 (by decide) ?_
              refine lv_isub hx hb dX11_readNumber_81 ?_
              obtain ⟨hn82, hr⟩ := chk_e hr
              obtain ⟨M_11, eM_11, hr⟩ := lt1_e hr
              refine xiast hx hb hK hW (k := 15) (t := 20) rfl (by decide) (by decide) rfl (n := 4) hn82 (jx := (ix x1)) rfl dX11_readNumber_82 (fun H locs hW => ?_)
              rw [← eM_11] at hW
              refine lv_aload_n hx hb dX11_readNumber_83 rfl (lv_at hl 1 rfl) ?_
              refine lv_dup hx hb dX11_readNumber_84 rfl ?_
              refine g11_21 hx hb hts hi11 hown hK hW (k := 0) rfl (hts _ (wm 1 rfl)) dX11_readNumber_85 ?_
              refine lv_iconst (v := (1 : Int32)) hx hb dX11_readNumber_88 (by decide) ?_
              refine lv_iadd hx hb dX11_readNumber_89 ?_
              obtain ⟨M_12, eM_12, hr⟩ := lt1_e hr
              refine p11_21 hx hb hts hi11 hown hK hW (k := 0) rfl (hts _ (wm 1 rfl)) dX11_readNumber_90 (fun H locs hW => ?_)
              rw [← eM_12] at hW
              refine lv_goto (tgt := 13) hx hb dX11_readNumber_93 (by decide) ?_
              exact ih M_12 _ _ _ hW (lv_sub hl [0, 1, 2, 3, 4] rfl) _ hr hk
  obtain ⟨M_4, hr, hr3⟩ := ob1_e hr
  refine hL13_1 1000 M_2 _ _ _ M_4 hW (lv_sub hl [0, 1, 2, 3, 4] rfl) hr (fun H locs ls hW hl => ?_)
  clear hr
  have hr := hr3
  refine lv_aload_n hx hb dX11_readNumber_96 rfl (lv_at hl 1 rfl) ?_
  refine g11_21 hx hb hts hi11 hown hK hW (k := 0) rfl (hts _ (wm 1 rfl)) dX11_readNumber_97 ?_
  refine lv_iload hx hb dX11_readNumber_100 (lv_at hl 0 rfl) ?_
  obtain ⟨y_13, hr, hr3⟩ := ob1_e hr
  have hj124_13 : ∀ (H : Heap) (locs : List Loc) (ls : Array Slot), Xw D false cA ad M_4 (AX false ad) s.heap H locs → lv_has ls 6 [(4, .int x4_1), (0, .ref (ad 0))] → W p l e (headSpec wsX11_readNumber { frames := 1, cells := 0, slots := 0, locals := 22 }).room s m args below meth c H locs 0 0 (MQ below (QiX false D false cA ad r M') args s 0 0 (AX false ad)) (F0 m 124 ls [.int y_13]) := by
    intro H locs ls hW hl
    have hr := hr3
    refine lv_istore (lv' := [(5, .int y_13), (4, .int x4_1), (0, .ref (ad 0))]) hx hb dX11_readNumber_124 hl (by decide) rfl (fun ls hl => ?_)
    refine lv_aload_n hx hb dX11_readNumber_126 rfl (lv_at hl 2 rfl) ?_
    refine lv_iload hx hb dX11_readNumber_127 (lv_at hl 0 rfl) ?_
    obtain ⟨y_15, hr, hr3⟩ := ob1_e hr
    have hj141_15 : ∀ (H : Heap) (locs : List Loc) (ls : Array Slot), Xw D false cA ad M_4 (AX false ad) s.heap H locs → lv_has ls 6 [(5, .int y_13)] → W p l e (headSpec wsX11_readNumber { frames := 1, cells := 0, slots := 0, locals := 22 }).room s m args below meth c H locs 0 0 (MQ below (QiX false D false cA ad r M') args s 0 0 (AX false ad)) (F0 m 141 ls [.int y_15, .ref (ad 0)]) := by
      intro H locs ls hW hl
      have hr := hr3
      obtain ⟨M_16, eM_16, hr⟩ := lt1_e hr
      refine p11_21 hx hb hts hi11 hown hK hW (k := 0) rfl (hts _ (wm 1 rfl)) dX11_readNumber_141 (fun H locs hW => ?_)
      rw [← eM_16] at hW
      refine lv_iload hx hb dX11_readNumber_144 (lv_at hl 0 rfl) ?_
      obtain ⟨hz146, hr⟩ := chk_e hr
      obtain ⟨e1, e2⟩ := Prod.mk.inj (Option.some.inj hr)
      rw [← e1, ← e2]
      exact xzret hx hb hr0 hlocks hW adR_rf hz146 dX11_readNumber_146
    clear hr3
    refine lv_if_eq (tgt := 139) hx hb dX11_readNumber_129 (by decide) (fun c1 => ?_) (fun c1 => ?_)
    · have hr := br_p c1 hr
      refine lv_iload hx hb dX11_readNumber_139 (lv_at hl 1 rfl) ?_
      have e1 := Option.some.inj hr
      subst e1
      exact hj141_15 _ _ _ hW (lv_sub hl [0] rfl)
    · have hr := br_n c1 hr
      refine lv_aload_n hx hb dX11_readNumber_132 rfl (lv_at hl 2 rfl) ?_
      refine g11_21 hx hb hts hi11 hown hK hW (k := 0) rfl (hts _ (wm 1 rfl)) dX11_readNumber_133 ?_
      refine lv_goto (tgt := 141) hx hb dX11_readNumber_136 (by decide) ?_
      have e1 := Option.some.inj hr
      subst e1
      exact hj141_15 _ _ _ hW (lv_sub hl [0] rfl)
  clear hr3
  refine lv_icmp_le (tgt := 123) hx hb dX11_readNumber_102 (by decide) (fun c1 => ?_) (fun c1 => ?_)
  · have hr := br_p c1 hr
    refine lv_iconst (v := (0 : Int32)) hx hb dX11_readNumber_123 (by decide) ?_
    have e1 := Option.some.inj hr
    subst e1
    exact hj124_13 _ _ _ hW (lv_sub hl [0, 1] rfl)
  · have hr := br_n c1 hr
    refine lv_aload_n hx hb dX11_readNumber_105 rfl (lv_at hl 1 rfl) ?_
    refine g11_23 hx hb hts hi11 hown hK hW (k := 0) rfl (hts _ (wm 2 rfl)) dX11_readNumber_106 ?_
    refine lv_iload_n hx hb dX11_readNumber_109 rfl (lv_at hl 2 rfl) ?_
    obtain ⟨hn110, hr⟩ := chk_e hr
    refine xiald hx hb hK hW (k := 15) (t := 20) rfl (by decide) (by decide) rfl (n := 4) hn110 (jx := (ix x1)) rfl dX11_readNumber_110 ?_
    refine lv_iload_n hx hb dX11_readNumber_111 rfl (lv_at hl 3 rfl) ?_
    refine lv_iload_n hx hb dX11_readNumber_112 rfl (lv_at hl 4 rfl) ?_
    obtain ⟨r_14, hc113, hr⟩ := ob1_e hr
    refine xk_i (va_runS (As := [.int (gI M_4 15 (ix x1)), .int x2, .int x3]) (rest := []) ⟨hx, hb, hml, hown, hts⟩ (c_X11_in l D cA ad M_4 (gI M_4 15 (ix x1)) x2 x3 hc113) (va_cwS 3 hts gX11_readNumber_X11_in rfl rfl rfl (by decide +kernel) ⟨Nat.le_of_ble_eq_true rfl, Nat.le_of_ble_eq_true rfl⟩) (xpreS hK hW) rfl rfl hl.1 rfl (lv_room (Nat.le_of_ble_eq_true rfl)) dX11_readNumber_113 ⟨Nat.le_of_ble_eq_true rfl, Nat.le_of_ble_eq_true rfl⟩) hW (fun H locs hW => ?_)
    refine lv_if_eq (tgt := 123) hx hb dX11_readNumber_116 (by decide) (fun c1 => ?_) (fun c1 => ?_)
    · have hr := br_p c1 hr
      refine lv_iconst (v := (0 : Int32)) hx hb dX11_readNumber_123 (by decide) ?_
      have e1 := Option.some.inj hr
      subst e1
      exact hj124_13 _ _ _ hW (lv_sub hl [0, 1] rfl)
    · have hr := br_n c1 hr
      refine lv_iconst (v := (1 : Int32)) hx hb dX11_readNumber_119 (by decide) ?_
      refine lv_goto (tgt := 124) hx hb dX11_readNumber_120 (by decide) ?_
      have e1 := Option.some.inj hr
      subst e1
      exact hj124_13 _ _ _ hW (lv_sub hl [0, 1] rfl)

def f_X11_readAct (M : Mm) : Option (Int32 × Mm) :=
ob1 (f_X11_here M) fun r_1 =>
lt1 (wI M 0 22 r_1) fun M_2 =>
(if (gI M_2 0 22) = (115 : Int32) then (
lt1 (wI M_2 0 21 ((gI M_2 0 21) + (1 : Int32))) fun M_3 =>
ob2 ((if (gI M_3 0 22) = (115 : Int32) then (
ob2 (f_X11_readNumber (0 : Int32) (0 : Int32) (3 : Int32) M_3) fun r_7 M_6 =>
(if r_7 = (0 : Int32) then (
some ((0 : Int32), M_6)) else (
ob2 (f_X11_passes (102 : Int32) M_6) fun r_9 M_8 =>
(if r_9 = (0 : Int32) then (
some ((0 : Int32), M_8)) else (
ob2 (f_X11_readNumber (1 : Int32) (1000 : Int32) (9999999 : Int32) M_8) fun r_11 M_10 =>
(if r_11 = (0 : Int32) then (
some ((0 : Int32), M_10)) else (
ob2 (f_X11_passes (98 : Int32) M_10) fun r_13 M_12 =>
(if r_13 = (0 : Int32) then (
some ((0 : Int32), M_12)) else (
ob2 (f_X11_readNumber (2 : Int32) (1000 : Int32) (9999999 : Int32) M_12) fun r_15 M_14 =>
(if r_15 = (0 : Int32) then (
some ((0 : Int32), M_14)) else (
ob2 (f_X11_passes (113 : Int32) M_14) fun r_17 M_16 =>
(if r_17 = (0 : Int32) then (
some ((0 : Int32), M_16)) else (
ob2 (f_X11_readNumber (3 : Int32) (0 : Int32) (100 : Int32) M_16) fun r_19 M_18 =>
(if r_19 = (0 : Int32) then (
some ((0 : Int32), M_18)) else (
some ((1 : Int32), M_18)))))))))))))))) else (
some ((1 : Int32), M_3)))) fun y_4 M_5 =>
(if y_4 = (0 : Int32) then (
some ((0 : Int32), M_5)) else (
ob2 (f_X11_passes (59 : Int32) M_5) fun r_21 M_20 =>
(if r_21 = (0 : Int32) then (
some ((0 : Int32), M_20)) else (
some ((1 : Int32), M_20)))))) else (
(if (gI M_2 0 22) = (99 : Int32) then (
lt1 (wI M_2 0 21 ((gI M_2 0 21) + (1 : Int32))) fun M_22 =>
ob2 ((if (gI M_22 0 22) = (115 : Int32) then (
ob2 (f_X11_readNumber (0 : Int32) (0 : Int32) (3 : Int32) M_22) fun r_26 M_25 =>
(if r_26 = (0 : Int32) then (
some ((0 : Int32), M_25)) else (
ob2 (f_X11_passes (102 : Int32) M_25) fun r_28 M_27 =>
(if r_28 = (0 : Int32) then (
some ((0 : Int32), M_27)) else (
ob2 (f_X11_readNumber (1 : Int32) (1000 : Int32) (9999999 : Int32) M_27) fun r_30 M_29 =>
(if r_30 = (0 : Int32) then (
some ((0 : Int32), M_29)) else (
ob2 (f_X11_passes (98 : Int32) M_29) fun r_32 M_31 =>
(if r_32 = (0 : Int32) then (
some ((0 : Int32), M_31)) else (
ob2 (f_X11_readNumber (2 : Int32) (1000 : Int32) (9999999 : Int32) M_31) fun r_34 M_33 =>
(if r_34 = (0 : Int32) then (
some ((0 : Int32), M_33)) else (
ob2 (f_X11_passes (113 : Int32) M_33) fun r_36 M_35 =>
(if r_36 = (0 : Int32) then (
some ((0 : Int32), M_35)) else (
ob2 (f_X11_readNumber (3 : Int32) (0 : Int32) (100 : Int32) M_35) fun r_38 M_37 =>
(if r_38 = (0 : Int32) then (
some ((0 : Int32), M_37)) else (
some ((1 : Int32), M_37)))))))))))))))) else (
some ((1 : Int32), M_22)))) fun y_23 M_24 =>
(if y_23 = (0 : Int32) then (
some ((0 : Int32), M_24)) else (
ob2 (f_X11_passes (59 : Int32) M_24) fun r_40 M_39 =>
(if r_40 = (0 : Int32) then (
some ((0 : Int32), M_39)) else (
some ((1 : Int32), M_39)))))) else (
(if (gI M_2 0 22) = (119 : Int32) then (
lt1 (wI M_2 0 21 ((gI M_2 0 21) + (1 : Int32))) fun M_41 =>
ob2 ((if (gI M_41 0 22) = (115 : Int32) then (
ob2 (f_X11_readNumber (0 : Int32) (0 : Int32) (3 : Int32) M_41) fun r_45 M_44 =>
(if r_45 = (0 : Int32) then (
some ((0 : Int32), M_44)) else (
ob2 (f_X11_passes (102 : Int32) M_44) fun r_47 M_46 =>
(if r_47 = (0 : Int32) then (
some ((0 : Int32), M_46)) else (
ob2 (f_X11_readNumber (1 : Int32) (1000 : Int32) (9999999 : Int32) M_46) fun r_49 M_48 =>
(if r_49 = (0 : Int32) then (
some ((0 : Int32), M_48)) else (
ob2 (f_X11_passes (98 : Int32) M_48) fun r_51 M_50 =>
(if r_51 = (0 : Int32) then (
some ((0 : Int32), M_50)) else (
ob2 (f_X11_readNumber (2 : Int32) (1000 : Int32) (9999999 : Int32) M_50) fun r_53 M_52 =>
(if r_53 = (0 : Int32) then (
some ((0 : Int32), M_52)) else (
ob2 (f_X11_passes (113 : Int32) M_52) fun r_55 M_54 =>
(if r_55 = (0 : Int32) then (
some ((0 : Int32), M_54)) else (
ob2 (f_X11_readNumber (3 : Int32) (0 : Int32) (100 : Int32) M_54) fun r_57 M_56 =>
(if r_57 = (0 : Int32) then (
some ((0 : Int32), M_56)) else (
some ((1 : Int32), M_56)))))))))))))))) else (
some ((1 : Int32), M_41)))) fun y_42 M_43 =>
(if y_42 = (0 : Int32) then (
some ((0 : Int32), M_43)) else (
ob2 (f_X11_passes (59 : Int32) M_43) fun r_59 M_58 =>
(if r_59 = (0 : Int32) then (
some ((0 : Int32), M_58)) else (
some ((1 : Int32), M_58)))))) else (
some ((0 : Int32), M_2)))))))

set_option maxHeartbeats 4000000 in
set_option maxRecDepth 100000 in
theorem c_X11_readAct (l : Launch) (D : va_G) (cA : Nat → ClassId) (ad : Nat → Nat) (M : Mm) {r : Int32} {M' : Mm} (hr : f_X11_readAct M = some (r, M')) : Met l yX11_readAct wsX11_readAct ({ frames := 2, cells := 0, slots := 0, locals := 47 }) (PcX D false cA ad M [.ref (ad 0)]) (QiX false D false cA ad r M') 0 0 (AX false ad) := by
  refine Met.ofW (cc := cX11_readAct) (maxL := 2) (ret := (some .boolean)) (by decide) rfl ?_
  intro p e s m args below meth c s₁ B hml hv
  obtain ⟨rfl, hP0, hK⟩ := hv
  have hx := B.exec
  have hb := B.bytes
  have hr0 := B.returns
  have hts := atoms_spec (ws := wsX11_readAct) B.pre
  have hown : s.vm.findClass RX11 = some m.cls := findClass_of_methodNamed B.named
  have hlocks := B.notSynchronized
  have hW := xstart hP0
  have hi11 : ∀ w ∈ wsX110, w ∈ wsX11_readAct := fun w h => List.mem_cons_of_mem _ (List.mem_append_right _ h)
  have hl := lv_entry ([.ref (ad 0)]) (n := 2) (Nat.le_of_ble_eq_true rfl)
  rw [lg_entry_eq]
  generalize (lg_sl ([.ref (ad 0)]) ++ List.replicate (2 - (lg_sl ([.ref (ad 0)])).length) Slot.unset).toArray = ls at hl ⊢
  have hl : lv_has ls 2 [(0, .ref (ad 0))] := hl
  clear hP0
  unfold f_X11_readAct at hr
  refine lv_aload_n hx hb dX11_readAct_0 rfl (lv_at hl 0 rfl) ?_
  refine lv_aload_n hx hb dX11_readAct_1 rfl (lv_at hl 0 rfl) ?_
  obtain ⟨r_1, hc2, hr⟩ := ob1_e hr
  refine xk_i (va_runV (As := []) (rest := [.ref (ad 0)]) ⟨hx, hb, hml, hown, hts⟩ (c_X11_here l D cA ad M hc2) (cwV 0 hts gX11_readAct_X11_here rfl rfl rfl (by decide +kernel) ⟨Nat.le_of_ble_eq_true rfl, Nat.le_of_ble_eq_true rfl⟩) (xpreV hK hW (k := 0) rfl (by decide) rfl) rfl rfl hl.1 rfl (lv_room (Nat.le_of_ble_eq_true rfl)) dX11_readAct_2 ⟨Nat.le_of_ble_eq_true rfl, Nat.le_of_ble_eq_true rfl⟩) hW (fun H locs hW => ?_)
  obtain ⟨M_2, eM_2, hr⟩ := lt1_e hr
  refine p11_22 hx hb hts hi11 hown hK hW (k := 0) rfl (hts _ (wm 1 rfl)) dX11_readAct_5 (fun H locs hW => ?_)
  rw [← eM_2] at hW
  refine lv_aload_n hx hb dX11_readAct_8 rfl (lv_at hl 0 rfl) ?_
  refine g11_22 hx hb hts hi11 hown hK hW (k := 0) rfl (hts _ (wm 1 rfl)) dX11_readAct_9 ?_
  refine lv_bipush (v := (115 : Int32)) hx hb dX11_readAct_12 (by decide) ?_
  refine lv_icmp_eq (tgt := 37) hx hb dX11_readAct_14 (by decide) (fun c1 => ?_) (fun c1 => ?_)
  · have hr := br_p c1 hr
    refine lv_aload_n hx hb dX11_readAct_37 rfl (lv_at hl 0 rfl) ?_
    refine lv_dup hx hb dX11_readAct_38 rfl ?_
    refine g11_21 hx hb hts hi11 hown hK hW (k := 0) rfl (hts _ (wm 2 rfl)) dX11_readAct_39 ?_
    refine lv_iconst (v := (1 : Int32)) hx hb dX11_readAct_42 (by decide) ?_
    refine lv_iadd hx hb dX11_readAct_43 ?_
    obtain ⟨M_3, eM_3, hr⟩ := lt1_e hr
    refine p11_21 hx hb hts hi11 hown hK hW (k := 0) rfl (hts _ (wm 2 rfl)) dX11_readAct_44 (fun H locs hW => ?_)
    rw [← eM_3] at hW
    refine lv_aload_n hx hb dX11_readAct_47 rfl (lv_at hl 0 rfl) ?_
    refine g11_22 hx hb hts hi11 hown hK hW (k := 0) rfl (hts _ (wm 1 rfl)) dX11_readAct_48 ?_
    refine lv_bipush (v := (115 : Int32)) hx hb dX11_readAct_51 (by decide) ?_
    obtain ⟨y_4, M_5, hr, hr3⟩ := ob2_e hr
    have hj135_5 : ∀ (H : Heap) (locs : List Loc) (ls : Array Slot), Xw D false cA ad M_5 (AX false ad) s.heap H locs → lv_has ls 2 [(0, .ref (ad 0))] → W p l e (headSpec wsX11_readAct { frames := 2, cells := 0, slots := 0, locals := 47 }).room s m args below meth c H locs 0 0 (MQ below (QiX false D false cA ad r M') args s 0 0 (AX false ad)) (F0 m 135 ls [.int y_4]) := by
      intro H locs ls hW hl
      have hr := hr3
      refine lv_istore_n (lv' := [(1, .int y_4), (0, .ref (ad 0))]) hx hb dX11_readAct_135 rfl hl (by decide) rfl (fun ls hl => ?_)
      refine lv_iload_n hx hb dX11_readAct_136 rfl (lv_at hl 0 rfl) ?_
      refine lv_if_eq (tgt := 153) hx hb dX11_readAct_137 (by decide) (fun c1 => ?_) (fun c1 => ?_)
      · have hr := br_p c1 hr
        refine lv_iconst (v := (0 : Int32)) hx hb dX11_readAct_153 (by decide) ?_
        obtain ⟨e1, e2⟩ := Prod.mk.inj (Option.some.inj hr)
        rw [← e1, ← e2]
        exact xzret hx hb hr0 hlocks hW adR_rf (by decide) dX11_readAct_154
      · have hr := br_n c1 hr
        refine lv_aload_n hx hb dX11_readAct_140 rfl (lv_at hl 1 rfl) ?_
        refine lv_bipush (v := (59 : Int32)) hx hb dX11_readAct_141 (by decide) ?_
        obtain ⟨r_21, M_20, hc143, hr⟩ := ob2_e hr
        refine xk_i (va_runV (As := [.int (59 : Int32)]) (rest := []) ⟨hx, hb, hml, hown, hts⟩ (c_X11_passes l D cA ad M_5 (59 : Int32) hc143) (cwV 1 hts gX11_readAct_X11_passes rfl rfl rfl (by decide +kernel) ⟨Nat.le_of_ble_eq_true rfl, Nat.le_of_ble_eq_true rfl⟩) (xpreV hK hW (k := 0) rfl (by decide) rfl) rfl rfl hl.1 rfl (lv_room (Nat.le_of_ble_eq_true rfl)) dX11_readAct_143 ⟨Nat.le_of_ble_eq_true rfl, Nat.le_of_ble_eq_true rfl⟩) hW (fun H locs hW => ?_)
        refine lv_if_eq (tgt := 153) hx hb dX11_readAct_146 (by decide) (fun c1 => ?_) (fun c1 => ?_)
        · have hr := br_p c1 hr
          refine lv_iconst (v := (0 : Int32)) hx hb dX11_readAct_153 (by decide) ?_
          obtain ⟨e1, e2⟩ := Prod.mk.inj (Option.some.inj hr)
          rw [← e1, ← e2]
          exact xzret hx hb hr0 hlocks hW adR_rf (by decide) dX11_readAct_154
        · have hr := br_n c1 hr
          refine lv_iconst (v := (1 : Int32)) hx hb dX11_readAct_149 (by decide) ?_
          refine lv_goto (tgt := 154) hx hb dX11_readAct_150 (by decide) ?_
          obtain ⟨e1, e2⟩ := Prod.mk.inj (Option.some.inj hr)
          rw [← e1, ← e2]
          exact xzret hx hb hr0 hlocks hW adR_rf (by decide) dX11_readAct_154
    clear hr3
    refine lv_icmp_ne (tgt := 130) hx hb dX11_readAct_53 (by decide) (fun c1 => ?_) (fun c1 => ?_)
    · have hr := br_n c1 hr
      refine lv_iconst (v := (1 : Int32)) hx hb dX11_readAct_130 (by decide) ?_
      refine lv_goto (tgt := 135) hx hb dX11_readAct_131 (by decide) ?_
      obtain ⟨e1, e2⟩ := Prod.mk.inj (Option.some.inj hr)
      subst e1
      subst e2
      exact hj135_5 _ _ _ hW (lv_sub hl [0] rfl)
    · have hr := br_p c1 hr
      refine lv_aload_n hx hb dX11_readAct_56 rfl (lv_at hl 0 rfl) ?_
      refine lv_iconst (v := (0 : Int32)) hx hb dX11_readAct_57 (by decide) ?_
      refine lv_iconst (v := (0 : Int32)) hx hb dX11_readAct_58 (by decide) ?_
      refine lv_iconst (v := (3 : Int32)) hx hb dX11_readAct_59 (by decide) ?_
      obtain ⟨r_7, M_6, hc60, hr⟩ := ob2_e hr
      refine xk_i (va_runV (As := [.int (0 : Int32), .int (0 : Int32), .int (3 : Int32)]) (rest := []) ⟨hx, hb, hml, hown, hts⟩ (c_X11_readNumber l D cA ad M_3 (0 : Int32) (0 : Int32) (3 : Int32) hc60) (cwV 3 hts gX11_readAct_X11_readNumber rfl rfl rfl (by decide +kernel) ⟨Nat.le_of_ble_eq_true rfl, Nat.le_of_ble_eq_true rfl⟩) (xpreV hK hW (k := 0) rfl (by decide) rfl) rfl rfl hl.1 rfl (lv_room (Nat.le_of_ble_eq_true rfl)) dX11_readAct_60 ⟨Nat.le_of_ble_eq_true rfl, Nat.le_of_ble_eq_true rfl⟩) hW (fun H locs hW => ?_)
      refine lv_if_eq (tgt := 134) hx hb dX11_readAct_63 (by decide) (fun c1 => ?_) (fun c1 => ?_)
      · have hr := br_p c1 hr
        refine lv_iconst (v := (0 : Int32)) hx hb dX11_readAct_134 (by decide) ?_
        obtain ⟨e1, e2⟩ := Prod.mk.inj (Option.some.inj hr)
        subst e1
        subst e2
        exact hj135_5 _ _ _ hW (lv_sub hl [0] rfl)
      · have hr := br_n c1 hr
        refine lv_aload_n hx hb dX11_readAct_66 rfl (lv_at hl 0 rfl) ?_
        refine lv_bipush (v := (102 : Int32)) hx hb dX11_readAct_67 (by decide) ?_
        obtain ⟨r_9, M_8, hc69, hr⟩ := ob2_e hr
        refine xk_i (va_runV (As := [.int (102 : Int32)]) (rest := []) ⟨hx, hb, hml, hown, hts⟩ (c_X11_passes l D cA ad M_6 (102 : Int32) hc69) (cwV 1 hts gX11_readAct_X11_passes rfl rfl rfl (by decide +kernel) ⟨Nat.le_of_ble_eq_true rfl, Nat.le_of_ble_eq_true rfl⟩) (xpreV hK hW (k := 0) rfl (by decide) rfl) rfl rfl hl.1 rfl (lv_room (Nat.le_of_ble_eq_true rfl)) dX11_readAct_69 ⟨Nat.le_of_ble_eq_true rfl, Nat.le_of_ble_eq_true rfl⟩) hW (fun H locs hW => ?_)
        refine lv_if_eq (tgt := 134) hx hb dX11_readAct_72 (by decide) (fun c1 => ?_) (fun c1 => ?_)
        · have hr := br_p c1 hr
          refine lv_iconst (v := (0 : Int32)) hx hb dX11_readAct_134 (by decide) ?_
          obtain ⟨e1, e2⟩ := Prod.mk.inj (Option.some.inj hr)
          subst e1
          subst e2
          exact hj135_5 _ _ _ hW (lv_sub hl [0] rfl)
        · have hr := br_n c1 hr
          refine lv_aload_n hx hb dX11_readAct_75 rfl (lv_at hl 0 rfl) ?_
          refine lv_iconst (v := (1 : Int32)) hx hb dX11_readAct_76 (by decide) ?_
          refine lv_sipush (v := (1000 : Int32)) hx hb dX11_readAct_77 (by decide) ?_
          refine lv_ldc (v := (9999999 : Int32)) hx hb hown (hts _ (wm 3 rfl)) dX11_readAct_80 ?_
          obtain ⟨r_11, M_10, hc82, hr⟩ := ob2_e hr
          refine xk_i (va_runV (As := [.int (1 : Int32), .int (1000 : Int32), .int (9999999 : Int32)]) (rest := []) ⟨hx, hb, hml, hown, hts⟩ (c_X11_readNumber l D cA ad M_8 (1 : Int32) (1000 : Int32) (9999999 : Int32) hc82) (cwV 3 hts gX11_readAct_X11_readNumber rfl rfl rfl (by decide +kernel) ⟨Nat.le_of_ble_eq_true rfl, Nat.le_of_ble_eq_true rfl⟩) (xpreV hK hW (k := 0) rfl (by decide) rfl) rfl rfl hl.1 rfl (lv_room (Nat.le_of_ble_eq_true rfl)) dX11_readAct_82 ⟨Nat.le_of_ble_eq_true rfl, Nat.le_of_ble_eq_true rfl⟩) hW (fun H locs hW => ?_)
          refine lv_if_eq (tgt := 134) hx hb dX11_readAct_85 (by decide) (fun c1 => ?_) (fun c1 => ?_)
          · have hr := br_p c1 hr
            refine lv_iconst (v := (0 : Int32)) hx hb dX11_readAct_134 (by decide) ?_
            obtain ⟨e1, e2⟩ := Prod.mk.inj (Option.some.inj hr)
            subst e1
            subst e2
            exact hj135_5 _ _ _ hW (lv_sub hl [0] rfl)
          · have hr := br_n c1 hr
            refine lv_aload_n hx hb dX11_readAct_88 rfl (lv_at hl 0 rfl) ?_
            refine lv_bipush (v := (98 : Int32)) hx hb dX11_readAct_89 (by decide) ?_
            obtain ⟨r_13, M_12, hc91, hr⟩ := ob2_e hr
            refine xk_i (va_runV (As := [.int (98 : Int32)]) (rest := []) ⟨hx, hb, hml, hown, hts⟩ (c_X11_passes l D cA ad M_10 (98 : Int32) hc91) (cwV 1 hts gX11_readAct_X11_passes rfl rfl rfl (by decide +kernel) ⟨Nat.le_of_ble_eq_true rfl, Nat.le_of_ble_eq_true rfl⟩) (xpreV hK hW (k := 0) rfl (by decide) rfl) rfl rfl hl.1 rfl (lv_room (Nat.le_of_ble_eq_true rfl)) dX11_readAct_91 ⟨Nat.le_of_ble_eq_true rfl, Nat.le_of_ble_eq_true rfl⟩) hW (fun H locs hW => ?_)
            refine lv_if_eq (tgt := 134) hx hb dX11_readAct_94 (by decide) (fun c1 => ?_) (fun c1 => ?_)
            · have hr := br_p c1 hr
              refine lv_iconst (v := (0 : Int32)) hx hb dX11_readAct_134 (by decide) ?_
              obtain ⟨e1, e2⟩ := Prod.mk.inj (Option.some.inj hr)
              subst e1
              subst e2
              exact hj135_5 _ _ _ hW (lv_sub hl [0] rfl)
            · have hr := br_n c1 hr
              refine lv_aload_n hx hb dX11_readAct_97 rfl (lv_at hl 0 rfl) ?_
              refine lv_iconst (v := (2 : Int32)) hx hb dX11_readAct_98 (by decide) ?_
              refine lv_sipush (v := (1000 : Int32)) hx hb dX11_readAct_99 (by decide) ?_
              refine lv_ldc (v := (9999999 : Int32)) hx hb hown (hts _ (wm 3 rfl)) dX11_readAct_102 ?_
              obtain ⟨r_15, M_14, hc104, hr⟩ := ob2_e hr
              refine xk_i (va_runV (As := [.int (2 : Int32), .int (1000 : Int32), .int (9999999 : Int32)]) (rest := []) ⟨hx, hb, hml, hown, hts⟩ (c_X11_readNumber l D cA ad M_12 (2 : Int32) (1000 : Int32) (9999999 : Int32) hc104) (cwV 3 hts gX11_readAct_X11_readNumber rfl rfl rfl (by decide +kernel) ⟨Nat.le_of_ble_eq_true rfl, Nat.le_of_ble_eq_true rfl⟩) (xpreV hK hW (k := 0) rfl (by decide) rfl) rfl rfl hl.1 rfl (lv_room (Nat.le_of_ble_eq_true rfl)) dX11_readAct_104 ⟨Nat.le_of_ble_eq_true rfl, Nat.le_of_ble_eq_true rfl⟩) hW (fun H locs hW => ?_)
              refine lv_if_eq (tgt := 134) hx hb dX11_readAct_107 (by decide) (fun c1 => ?_) (fun c1 => ?_)
              · have hr := br_p c1 hr
                refine lv_iconst (v := (0 : Int32)) hx hb dX11_readAct_134 (by decide) ?_
                obtain ⟨e1, e2⟩ := Prod.mk.inj (Option.some.inj hr)
                subst e1
                subst e2
                exact hj135_5 _ _ _ hW (lv_sub hl [0] rfl)
              · have hr := br_n c1 hr
                refine lv_aload_n hx hb dX11_readAct_110 rfl (lv_at hl 0 rfl) ?_
                refine lv_bipush (v := (113 : Int32)) hx hb dX11_readAct_111 (by decide) ?_
                obtain ⟨r_17, M_16, hc113, hr⟩ := ob2_e hr
                refine xk_i (va_runV (As := [.int (113 : Int32)]) (rest := []) ⟨hx, hb, hml, hown, hts⟩ (c_X11_passes l D cA ad M_14 (113 : Int32) hc113) (cwV 1 hts gX11_readAct_X11_passes rfl rfl rfl (by decide +kernel) ⟨Nat.le_of_ble_eq_true rfl, Nat.le_of_ble_eq_true rfl⟩) (xpreV hK hW (k := 0) rfl (by decide) rfl) rfl rfl hl.1 rfl (lv_room (Nat.le_of_ble_eq_true rfl)) dX11_readAct_113 ⟨Nat.le_of_ble_eq_true rfl, Nat.le_of_ble_eq_true rfl⟩) hW (fun H locs hW => ?_)
                refine lv_if_eq (tgt := 134) hx hb dX11_readAct_116 (by decide) (fun c1 => ?_) (fun c1 => ?_)
                · have hr := br_p c1 hr
                  refine lv_iconst (v := (0 : Int32)) hx hb dX11_readAct_134 (by decide) ?_
                  obtain ⟨e1, e2⟩ := Prod.mk.inj (Option.some.inj hr)
                  subst e1
                  subst e2
                  exact hj135_5 _ _ _ hW (lv_sub hl [0] rfl)
                · have hr := br_n c1 hr
                  refine lv_aload_n hx hb dX11_readAct_119 rfl (lv_at hl 0 rfl) ?_
                  refine lv_iconst (v := (3 : Int32)) hx hb dX11_readAct_120 (by decide) ?_
                  refine lv_iconst (v := (0 : Int32)) hx hb dX11_readAct_121 (by decide) ?_
                  refine lv_bipush (v := (100 : Int32)) hx hb dX11_readAct_122 (by decide) ?_
                  obtain ⟨r_19, M_18, hc124, hr⟩ := ob2_e hr
                  refine xk_i (va_runV (As := [.int (3 : Int32), .int (0 : Int32), .int (100 : Int32)]) (rest := []) ⟨hx, hb, hml, hown, hts⟩ (c_X11_readNumber l D cA ad M_16 (3 : Int32) (0 : Int32) (100 : Int32) hc124) (cwV 3 hts gX11_readAct_X11_readNumber rfl rfl rfl (by decide +kernel) ⟨Nat.le_of_ble_eq_true rfl, Nat.le_of_ble_eq_true rfl⟩) (xpreV hK hW (k := 0) rfl (by decide) rfl) rfl rfl hl.1 rfl (lv_room (Nat.le_of_ble_eq_true rfl)) dX11_readAct_124 ⟨Nat.le_of_ble_eq_true rfl, Nat.le_of_ble_eq_true rfl⟩) hW (fun H locs hW => ?_)
                  refine lv_if_eq (tgt := 134) hx hb dX11_readAct_127 (by decide) (fun c1 => ?_) (fun c1 => ?_)
                  · have hr := br_p c1 hr
                    refine lv_iconst (v := (0 : Int32)) hx hb dX11_readAct_134 (by decide) ?_
                    obtain ⟨e1, e2⟩ := Prod.mk.inj (Option.some.inj hr)
                    subst e1
                    subst e2
                    exact hj135_5 _ _ _ hW (lv_sub hl [0] rfl)
                  · have hr := br_n c1 hr
                    refine lv_iconst (v := (1 : Int32)) hx hb dX11_readAct_130 (by decide) ?_
                    refine lv_goto (tgt := 135) hx hb dX11_readAct_131 (by decide) ?_
                    obtain ⟨e1, e2⟩ := Prod.mk.inj (Option.some.inj hr)
                    subst e1
                    subst e2
                    exact hj135_5 _ _ _ hW (lv_sub hl [0] rfl)
  · have hr := br_n c1 hr
    refine lv_aload_n hx hb dX11_readAct_17 rfl (lv_at hl 0 rfl) ?_
    refine g11_22 hx hb hts hi11 hown hK hW (k := 0) rfl (hts _ (wm 1 rfl)) dX11_readAct_18 ?_
    refine lv_bipush (v := (99 : Int32)) hx hb dX11_readAct_21 (by decide) ?_
    refine lv_icmp_eq (tgt := 37) hx hb dX11_readAct_23 (by decide) (fun c1 => ?_) (fun c1 => ?_)
    · have hr := br_p c1 hr
      refine lv_aload_n hx hb dX11_readAct_37 rfl (lv_at hl 0 rfl) ?_
      refine lv_dup hx hb dX11_readAct_38 rfl ?_
      refine g11_21 hx hb hts hi11 hown hK hW (k := 0) rfl (hts _ (wm 2 rfl)) dX11_readAct_39 ?_
      refine lv_iconst (v := (1 : Int32)) hx hb dX11_readAct_42 (by decide) ?_
      refine lv_iadd hx hb dX11_readAct_43 ?_
      obtain ⟨M_22, eM_22, hr⟩ := lt1_e hr
      refine p11_21 hx hb hts hi11 hown hK hW (k := 0) rfl (hts _ (wm 2 rfl)) dX11_readAct_44 (fun H locs hW => ?_)
      rw [← eM_22] at hW
      refine lv_aload_n hx hb dX11_readAct_47 rfl (lv_at hl 0 rfl) ?_
      refine g11_22 hx hb hts hi11 hown hK hW (k := 0) rfl (hts _ (wm 1 rfl)) dX11_readAct_48 ?_
      refine lv_bipush (v := (115 : Int32)) hx hb dX11_readAct_51 (by decide) ?_
      obtain ⟨y_23, M_24, hr, hr3⟩ := ob2_e hr
      have hj135_24 : ∀ (H : Heap) (locs : List Loc) (ls : Array Slot), Xw D false cA ad M_24 (AX false ad) s.heap H locs → lv_has ls 2 [(0, .ref (ad 0))] → W p l e (headSpec wsX11_readAct { frames := 2, cells := 0, slots := 0, locals := 47 }).room s m args below meth c H locs 0 0 (MQ below (QiX false D false cA ad r M') args s 0 0 (AX false ad)) (F0 m 135 ls [.int y_23]) := by
        intro H locs ls hW hl
        have hr := hr3
        refine lv_istore_n (lv' := [(1, .int y_23), (0, .ref (ad 0))]) hx hb dX11_readAct_135 rfl hl (by decide) rfl (fun ls hl => ?_)
        refine lv_iload_n hx hb dX11_readAct_136 rfl (lv_at hl 0 rfl) ?_
        refine lv_if_eq (tgt := 153) hx hb dX11_readAct_137 (by decide) (fun c1 => ?_) (fun c1 => ?_)
        · have hr := br_p c1 hr
          refine lv_iconst (v := (0 : Int32)) hx hb dX11_readAct_153 (by decide) ?_
          obtain ⟨e1, e2⟩ := Prod.mk.inj (Option.some.inj hr)
          rw [← e1, ← e2]
          exact xzret hx hb hr0 hlocks hW adR_rf (by decide) dX11_readAct_154
        · have hr := br_n c1 hr
          refine lv_aload_n hx hb dX11_readAct_140 rfl (lv_at hl 1 rfl) ?_
          refine lv_bipush (v := (59 : Int32)) hx hb dX11_readAct_141 (by decide) ?_
          obtain ⟨r_40, M_39, hc143, hr⟩ := ob2_e hr
          refine xk_i (va_runV (As := [.int (59 : Int32)]) (rest := []) ⟨hx, hb, hml, hown, hts⟩ (c_X11_passes l D cA ad M_24 (59 : Int32) hc143) (cwV 1 hts gX11_readAct_X11_passes rfl rfl rfl (by decide +kernel) ⟨Nat.le_of_ble_eq_true rfl, Nat.le_of_ble_eq_true rfl⟩) (xpreV hK hW (k := 0) rfl (by decide) rfl) rfl rfl hl.1 rfl (lv_room (Nat.le_of_ble_eq_true rfl)) dX11_readAct_143 ⟨Nat.le_of_ble_eq_true rfl, Nat.le_of_ble_eq_true rfl⟩) hW (fun H locs hW => ?_)
          refine lv_if_eq (tgt := 153) hx hb dX11_readAct_146 (by decide) (fun c1 => ?_) (fun c1 => ?_)
          · have hr := br_p c1 hr
            refine lv_iconst (v := (0 : Int32)) hx hb dX11_readAct_153 (by decide) ?_
            obtain ⟨e1, e2⟩ := Prod.mk.inj (Option.some.inj hr)
            rw [← e1, ← e2]
            exact xzret hx hb hr0 hlocks hW adR_rf (by decide) dX11_readAct_154
          · have hr := br_n c1 hr
            refine lv_iconst (v := (1 : Int32)) hx hb dX11_readAct_149 (by decide) ?_
            refine lv_goto (tgt := 154) hx hb dX11_readAct_150 (by decide) ?_
            obtain ⟨e1, e2⟩ := Prod.mk.inj (Option.some.inj hr)
            rw [← e1, ← e2]
            exact xzret hx hb hr0 hlocks hW adR_rf (by decide) dX11_readAct_154
      clear hr3
      refine lv_icmp_ne (tgt := 130) hx hb dX11_readAct_53 (by decide) (fun c1 => ?_) (fun c1 => ?_)
      · have hr := br_n c1 hr
        refine lv_iconst (v := (1 : Int32)) hx hb dX11_readAct_130 (by decide) ?_
        refine lv_goto (tgt := 135) hx hb dX11_readAct_131 (by decide) ?_
        obtain ⟨e1, e2⟩ := Prod.mk.inj (Option.some.inj hr)
        subst e1
        subst e2
        exact hj135_24 _ _ _ hW (lv_sub hl [0] rfl)
      · have hr := br_p c1 hr
        refine lv_aload_n hx hb dX11_readAct_56 rfl (lv_at hl 0 rfl) ?_
        refine lv_iconst (v := (0 : Int32)) hx hb dX11_readAct_57 (by decide) ?_
        refine lv_iconst (v := (0 : Int32)) hx hb dX11_readAct_58 (by decide) ?_
        refine lv_iconst (v := (3 : Int32)) hx hb dX11_readAct_59 (by decide) ?_
        obtain ⟨r_26, M_25, hc60, hr⟩ := ob2_e hr
        refine xk_i (va_runV (As := [.int (0 : Int32), .int (0 : Int32), .int (3 : Int32)]) (rest := []) ⟨hx, hb, hml, hown, hts⟩ (c_X11_readNumber l D cA ad M_22 (0 : Int32) (0 : Int32) (3 : Int32) hc60) (cwV 3 hts gX11_readAct_X11_readNumber rfl rfl rfl (by decide +kernel) ⟨Nat.le_of_ble_eq_true rfl, Nat.le_of_ble_eq_true rfl⟩) (xpreV hK hW (k := 0) rfl (by decide) rfl) rfl rfl hl.1 rfl (lv_room (Nat.le_of_ble_eq_true rfl)) dX11_readAct_60 ⟨Nat.le_of_ble_eq_true rfl, Nat.le_of_ble_eq_true rfl⟩) hW (fun H locs hW => ?_)
        refine lv_if_eq (tgt := 134) hx hb dX11_readAct_63 (by decide) (fun c1 => ?_) (fun c1 => ?_)
        · have hr := br_p c1 hr
          refine lv_iconst (v := (0 : Int32)) hx hb dX11_readAct_134 (by decide) ?_
          obtain ⟨e1, e2⟩ := Prod.mk.inj (Option.some.inj hr)
          subst e1
          subst e2
          exact hj135_24 _ _ _ hW (lv_sub hl [0] rfl)
        · have hr := br_n c1 hr
          refine lv_aload_n hx hb dX11_readAct_66 rfl (lv_at hl 0 rfl) ?_
          refine lv_bipush (v := (102 : Int32)) hx hb dX11_readAct_67 (by decide) ?_
          obtain ⟨r_28, M_27, hc69, hr⟩ := ob2_e hr
          refine xk_i (va_runV (As := [.int (102 : Int32)]) (rest := []) ⟨hx, hb, hml, hown, hts⟩ (c_X11_passes l D cA ad M_25 (102 : Int32) hc69) (cwV 1 hts gX11_readAct_X11_passes rfl rfl rfl (by decide +kernel) ⟨Nat.le_of_ble_eq_true rfl, Nat.le_of_ble_eq_true rfl⟩) (xpreV hK hW (k := 0) rfl (by decide) rfl) rfl rfl hl.1 rfl (lv_room (Nat.le_of_ble_eq_true rfl)) dX11_readAct_69 ⟨Nat.le_of_ble_eq_true rfl, Nat.le_of_ble_eq_true rfl⟩) hW (fun H locs hW => ?_)
          refine lv_if_eq (tgt := 134) hx hb dX11_readAct_72 (by decide) (fun c1 => ?_) (fun c1 => ?_)
          · have hr := br_p c1 hr
            refine lv_iconst (v := (0 : Int32)) hx hb dX11_readAct_134 (by decide) ?_
            obtain ⟨e1, e2⟩ := Prod.mk.inj (Option.some.inj hr)
            subst e1
            subst e2
            exact hj135_24 _ _ _ hW (lv_sub hl [0] rfl)
          · have hr := br_n c1 hr
            refine lv_aload_n hx hb dX11_readAct_75 rfl (lv_at hl 0 rfl) ?_
            refine lv_iconst (v := (1 : Int32)) hx hb dX11_readAct_76 (by decide) ?_
            refine lv_sipush (v := (1000 : Int32)) hx hb dX11_readAct_77 (by decide) ?_
            refine lv_ldc (v := (9999999 : Int32)) hx hb hown (hts _ (wm 3 rfl)) dX11_readAct_80 ?_
            obtain ⟨r_30, M_29, hc82, hr⟩ := ob2_e hr
            refine xk_i (va_runV (As := [.int (1 : Int32), .int (1000 : Int32), .int (9999999 : Int32)]) (rest := []) ⟨hx, hb, hml, hown, hts⟩ (c_X11_readNumber l D cA ad M_27 (1 : Int32) (1000 : Int32) (9999999 : Int32) hc82) (cwV 3 hts gX11_readAct_X11_readNumber rfl rfl rfl (by decide +kernel) ⟨Nat.le_of_ble_eq_true rfl, Nat.le_of_ble_eq_true rfl⟩) (xpreV hK hW (k := 0) rfl (by decide) rfl) rfl rfl hl.1 rfl (lv_room (Nat.le_of_ble_eq_true rfl)) dX11_readAct_82 ⟨Nat.le_of_ble_eq_true rfl, Nat.le_of_ble_eq_true rfl⟩) hW (fun H locs hW => ?_)
            refine lv_if_eq (tgt := 134) hx hb dX11_readAct_85 (by decide) (fun c1 => ?_) (fun c1 => ?_)
            · have hr := br_p c1 hr
              refine lv_iconst (v := (0 : Int32)) hx hb dX11_readAct_134 (by decide) ?_
              obtain ⟨e1, e2⟩ := Prod.mk.inj (Option.some.inj hr)
              subst e1
              subst e2
              exact hj135_24 _ _ _ hW (lv_sub hl [0] rfl)
            · have hr := br_n c1 hr
              refine lv_aload_n hx hb dX11_readAct_88 rfl (lv_at hl 0 rfl) ?_
              refine lv_bipush (v := (98 : Int32)) hx hb dX11_readAct_89 (by decide) ?_
              obtain ⟨r_32, M_31, hc91, hr⟩ := ob2_e hr
              refine xk_i (va_runV (As := [.int (98 : Int32)]) (rest := []) ⟨hx, hb, hml, hown, hts⟩ (c_X11_passes l D cA ad M_29 (98 : Int32) hc91) (cwV 1 hts gX11_readAct_X11_passes rfl rfl rfl (by decide +kernel) ⟨Nat.le_of_ble_eq_true rfl, Nat.le_of_ble_eq_true rfl⟩) (xpreV hK hW (k := 0) rfl (by decide) rfl) rfl rfl hl.1 rfl (lv_room (Nat.le_of_ble_eq_true rfl)) dX11_readAct_91 ⟨Nat.le_of_ble_eq_true rfl, Nat.le_of_ble_eq_true rfl⟩) hW (fun H locs hW => ?_)
              refine lv_if_eq (tgt := 134) hx hb dX11_readAct_94 (by decide) (fun c1 => ?_) (fun c1 => ?_)
              · have hr := br_p c1 hr
                refine lv_iconst (v := (0 : Int32)) hx hb dX11_readAct_134 (by decide) ?_
                obtain ⟨e1, e2⟩ := Prod.mk.inj (Option.some.inj hr)
                subst e1
                subst e2
                exact hj135_24 _ _ _ hW (lv_sub hl [0] rfl)
              · have hr := br_n c1 hr
                refine lv_aload_n hx hb dX11_readAct_97 rfl (lv_at hl 0 rfl) ?_
                refine lv_iconst (v := (2 : Int32)) hx hb dX11_readAct_98 (by decide) ?_
                refine lv_sipush (v := (1000 : Int32)) hx hb dX11_readAct_99 (by decide) ?_
                refine lv_ldc (v := (9999999 : Int32)) hx hb hown (hts _ (wm 3 rfl)) dX11_readAct_102 ?_
                obtain ⟨r_34, M_33, hc104, hr⟩ := ob2_e hr
                refine xk_i (va_runV (As := [.int (2 : Int32), .int (1000 : Int32), .int (9999999 : Int32)]) (rest := []) ⟨hx, hb, hml, hown, hts⟩ (c_X11_readNumber l D cA ad M_31 (2 : Int32) (1000 : Int32) (9999999 : Int32) hc104) (cwV 3 hts gX11_readAct_X11_readNumber rfl rfl rfl (by decide +kernel) ⟨Nat.le_of_ble_eq_true rfl, Nat.le_of_ble_eq_true rfl⟩) (xpreV hK hW (k := 0) rfl (by decide) rfl) rfl rfl hl.1 rfl (lv_room (Nat.le_of_ble_eq_true rfl)) dX11_readAct_104 ⟨Nat.le_of_ble_eq_true rfl, Nat.le_of_ble_eq_true rfl⟩) hW (fun H locs hW => ?_)
                refine lv_if_eq (tgt := 134) hx hb dX11_readAct_107 (by decide) (fun c1 => ?_) (fun c1 => ?_)
                · have hr := br_p c1 hr
                  refine lv_iconst (v := (0 : Int32)) hx hb dX11_readAct_134 (by decide) ?_
                  obtain ⟨e1, e2⟩ := Prod.mk.inj (Option.some.inj hr)
                  subst e1
                  subst e2
                  exact hj135_24 _ _ _ hW (lv_sub hl [0] rfl)
                · have hr := br_n c1 hr
                  refine lv_aload_n hx hb dX11_readAct_110 rfl (lv_at hl 0 rfl) ?_
                  refine lv_bipush (v := (113 : Int32)) hx hb dX11_readAct_111 (by decide) ?_
                  obtain ⟨r_36, M_35, hc113, hr⟩ := ob2_e hr
                  refine xk_i (va_runV (As := [.int (113 : Int32)]) (rest := []) ⟨hx, hb, hml, hown, hts⟩ (c_X11_passes l D cA ad M_33 (113 : Int32) hc113) (cwV 1 hts gX11_readAct_X11_passes rfl rfl rfl (by decide +kernel) ⟨Nat.le_of_ble_eq_true rfl, Nat.le_of_ble_eq_true rfl⟩) (xpreV hK hW (k := 0) rfl (by decide) rfl) rfl rfl hl.1 rfl (lv_room (Nat.le_of_ble_eq_true rfl)) dX11_readAct_113 ⟨Nat.le_of_ble_eq_true rfl, Nat.le_of_ble_eq_true rfl⟩) hW (fun H locs hW => ?_)
                  refine lv_if_eq (tgt := 134) hx hb dX11_readAct_116 (by decide) (fun c1 => ?_) (fun c1 => ?_)
                  · have hr := br_p c1 hr
                    refine lv_iconst (v := (0 : Int32)) hx hb dX11_readAct_134 (by decide) ?_
                    obtain ⟨e1, e2⟩ := Prod.mk.inj (Option.some.inj hr)
                    subst e1
                    subst e2
                    exact hj135_24 _ _ _ hW (lv_sub hl [0] rfl)
                  · have hr := br_n c1 hr
                    refine lv_aload_n hx hb dX11_readAct_119 rfl (lv_at hl 0 rfl) ?_
                    refine lv_iconst (v := (3 : Int32)) hx hb dX11_readAct_120 (by decide) ?_
                    refine lv_iconst (v := (0 : Int32)) hx hb dX11_readAct_121 (by decide) ?_
                    refine lv_bipush (v := (100 : Int32)) hx hb dX11_readAct_122 (by decide) ?_
                    obtain ⟨r_38, M_37, hc124, hr⟩ := ob2_e hr
                    refine xk_i (va_runV (As := [.int (3 : Int32), .int (0 : Int32), .int (100 : Int32)]) (rest := []) ⟨hx, hb, hml, hown, hts⟩ (c_X11_readNumber l D cA ad M_35 (3 : Int32) (0 : Int32) (100 : Int32) hc124) (cwV 3 hts gX11_readAct_X11_readNumber rfl rfl rfl (by decide +kernel) ⟨Nat.le_of_ble_eq_true rfl, Nat.le_of_ble_eq_true rfl⟩) (xpreV hK hW (k := 0) rfl (by decide) rfl) rfl rfl hl.1 rfl (lv_room (Nat.le_of_ble_eq_true rfl)) dX11_readAct_124 ⟨Nat.le_of_ble_eq_true rfl, Nat.le_of_ble_eq_true rfl⟩) hW (fun H locs hW => ?_)
                    refine lv_if_eq (tgt := 134) hx hb dX11_readAct_127 (by decide) (fun c1 => ?_) (fun c1 => ?_)
                    · have hr := br_p c1 hr
                      refine lv_iconst (v := (0 : Int32)) hx hb dX11_readAct_134 (by decide) ?_
                      obtain ⟨e1, e2⟩ := Prod.mk.inj (Option.some.inj hr)
                      subst e1
                      subst e2
                      exact hj135_24 _ _ _ hW (lv_sub hl [0] rfl)
                    · have hr := br_n c1 hr
                      refine lv_iconst (v := (1 : Int32)) hx hb dX11_readAct_130 (by decide) ?_
                      refine lv_goto (tgt := 135) hx hb dX11_readAct_131 (by decide) ?_
                      obtain ⟨e1, e2⟩ := Prod.mk.inj (Option.some.inj hr)
                      subst e1
                      subst e2
                      exact hj135_24 _ _ _ hW (lv_sub hl [0] rfl)
    · have hr := br_n c1 hr
      refine lv_aload_n hx hb dX11_readAct_26 rfl (lv_at hl 0 rfl) ?_
      refine g11_22 hx hb hts hi11 hown hK hW (k := 0) rfl (hts _ (wm 1 rfl)) dX11_readAct_27 ?_
      refine lv_bipush (v := (119 : Int32)) hx hb dX11_readAct_30 (by decide) ?_
      refine lv_icmp_eq (tgt := 37) hx hb dX11_readAct_32 (by decide) (fun c1 => ?_) (fun c1 => ?_)
      · have hr := br_p c1 hr
        refine lv_aload_n hx hb dX11_readAct_37 rfl (lv_at hl 0 rfl) ?_
        refine lv_dup hx hb dX11_readAct_38 rfl ?_
        refine g11_21 hx hb hts hi11 hown hK hW (k := 0) rfl (hts _ (wm 2 rfl)) dX11_readAct_39 ?_
        refine lv_iconst (v := (1 : Int32)) hx hb dX11_readAct_42 (by decide) ?_
        refine lv_iadd hx hb dX11_readAct_43 ?_
        obtain ⟨M_41, eM_41, hr⟩ := lt1_e hr
        refine p11_21 hx hb hts hi11 hown hK hW (k := 0) rfl (hts _ (wm 2 rfl)) dX11_readAct_44 (fun H locs hW => ?_)
        rw [← eM_41] at hW
        refine lv_aload_n hx hb dX11_readAct_47 rfl (lv_at hl 0 rfl) ?_
        refine g11_22 hx hb hts hi11 hown hK hW (k := 0) rfl (hts _ (wm 1 rfl)) dX11_readAct_48 ?_
        refine lv_bipush (v := (115 : Int32)) hx hb dX11_readAct_51 (by decide) ?_
        obtain ⟨y_42, M_43, hr, hr3⟩ := ob2_e hr
        have hj135_43 : ∀ (H : Heap) (locs : List Loc) (ls : Array Slot), Xw D false cA ad M_43 (AX false ad) s.heap H locs → lv_has ls 2 [(0, .ref (ad 0))] → W p l e (headSpec wsX11_readAct { frames := 2, cells := 0, slots := 0, locals := 47 }).room s m args below meth c H locs 0 0 (MQ below (QiX false D false cA ad r M') args s 0 0 (AX false ad)) (F0 m 135 ls [.int y_42]) := by
          intro H locs ls hW hl
          have hr := hr3
          refine lv_istore_n (lv' := [(1, .int y_42), (0, .ref (ad 0))]) hx hb dX11_readAct_135 rfl hl (by decide) rfl (fun ls hl => ?_)
          refine lv_iload_n hx hb dX11_readAct_136 rfl (lv_at hl 0 rfl) ?_
          refine lv_if_eq (tgt := 153) hx hb dX11_readAct_137 (by decide) (fun c1 => ?_) (fun c1 => ?_)
          · have hr := br_p c1 hr
            refine lv_iconst (v := (0 : Int32)) hx hb dX11_readAct_153 (by decide) ?_
            obtain ⟨e1, e2⟩ := Prod.mk.inj (Option.some.inj hr)
            rw [← e1, ← e2]
            exact xzret hx hb hr0 hlocks hW adR_rf (by decide) dX11_readAct_154
          · have hr := br_n c1 hr
            refine lv_aload_n hx hb dX11_readAct_140 rfl (lv_at hl 1 rfl) ?_
            refine lv_bipush (v := (59 : Int32)) hx hb dX11_readAct_141 (by decide) ?_
            obtain ⟨r_59, M_58, hc143, hr⟩ := ob2_e hr
            refine xk_i (va_runV (As := [.int (59 : Int32)]) (rest := []) ⟨hx, hb, hml, hown, hts⟩ (c_X11_passes l D cA ad M_43 (59 : Int32) hc143) (cwV 1 hts gX11_readAct_X11_passes rfl rfl rfl (by decide +kernel) ⟨Nat.le_of_ble_eq_true rfl, Nat.le_of_ble_eq_true rfl⟩) (xpreV hK hW (k := 0) rfl (by decide) rfl) rfl rfl hl.1 rfl (lv_room (Nat.le_of_ble_eq_true rfl)) dX11_readAct_143 ⟨Nat.le_of_ble_eq_true rfl, Nat.le_of_ble_eq_true rfl⟩) hW (fun H locs hW => ?_)
            refine lv_if_eq (tgt := 153) hx hb dX11_readAct_146 (by decide) (fun c1 => ?_) (fun c1 => ?_)
            · have hr := br_p c1 hr
              refine lv_iconst (v := (0 : Int32)) hx hb dX11_readAct_153 (by decide) ?_
              obtain ⟨e1, e2⟩ := Prod.mk.inj (Option.some.inj hr)
              rw [← e1, ← e2]
              exact xzret hx hb hr0 hlocks hW adR_rf (by decide) dX11_readAct_154
            · have hr := br_n c1 hr
              refine lv_iconst (v := (1 : Int32)) hx hb dX11_readAct_149 (by decide) ?_
              refine lv_goto (tgt := 154) hx hb dX11_readAct_150 (by decide) ?_
              obtain ⟨e1, e2⟩ := Prod.mk.inj (Option.some.inj hr)
              rw [← e1, ← e2]
              exact xzret hx hb hr0 hlocks hW adR_rf (by decide) dX11_readAct_154
        clear hr3
        refine lv_icmp_ne (tgt := 130) hx hb dX11_readAct_53 (by decide) (fun c1 => ?_) (fun c1 => ?_)
        · have hr := br_n c1 hr
          refine lv_iconst (v := (1 : Int32)) hx hb dX11_readAct_130 (by decide) ?_
          refine lv_goto (tgt := 135) hx hb dX11_readAct_131 (by decide) ?_
          obtain ⟨e1, e2⟩ := Prod.mk.inj (Option.some.inj hr)
          subst e1
          subst e2
          exact hj135_43 _ _ _ hW (lv_sub hl [0] rfl)
        · have hr := br_p c1 hr
          refine lv_aload_n hx hb dX11_readAct_56 rfl (lv_at hl 0 rfl) ?_
          refine lv_iconst (v := (0 : Int32)) hx hb dX11_readAct_57 (by decide) ?_
          refine lv_iconst (v := (0 : Int32)) hx hb dX11_readAct_58 (by decide) ?_
          refine lv_iconst (v := (3 : Int32)) hx hb dX11_readAct_59 (by decide) ?_
          obtain ⟨r_45, M_44, hc60, hr⟩ := ob2_e hr
          refine xk_i (va_runV (As := [.int (0 : Int32), .int (0 : Int32), .int (3 : Int32)]) (rest := []) ⟨hx, hb, hml, hown, hts⟩ (c_X11_readNumber l D cA ad M_41 (0 : Int32) (0 : Int32) (3 : Int32) hc60) (cwV 3 hts gX11_readAct_X11_readNumber rfl rfl rfl (by decide +kernel) ⟨Nat.le_of_ble_eq_true rfl, Nat.le_of_ble_eq_true rfl⟩) (xpreV hK hW (k := 0) rfl (by decide) rfl) rfl rfl hl.1 rfl (lv_room (Nat.le_of_ble_eq_true rfl)) dX11_readAct_60 ⟨Nat.le_of_ble_eq_true rfl, Nat.le_of_ble_eq_true rfl⟩) hW (fun H locs hW => ?_)
          refine lv_if_eq (tgt := 134) hx hb dX11_readAct_63 (by decide) (fun c1 => ?_) (fun c1 => ?_)
          · have hr := br_p c1 hr
            refine lv_iconst (v := (0 : Int32)) hx hb dX11_readAct_134 (by decide) ?_
            obtain ⟨e1, e2⟩ := Prod.mk.inj (Option.some.inj hr)
            subst e1
            subst e2
            exact hj135_43 _ _ _ hW (lv_sub hl [0] rfl)
          · have hr := br_n c1 hr
            refine lv_aload_n hx hb dX11_readAct_66 rfl (lv_at hl 0 rfl) ?_
            refine lv_bipush (v := (102 : Int32)) hx hb dX11_readAct_67 (by decide) ?_
            obtain ⟨r_47, M_46, hc69, hr⟩ := ob2_e hr
            refine xk_i (va_runV (As := [.int (102 : Int32)]) (rest := []) ⟨hx, hb, hml, hown, hts⟩ (c_X11_passes l D cA ad M_44 (102 : Int32) hc69) (cwV 1 hts gX11_readAct_X11_passes rfl rfl rfl (by decide +kernel) ⟨Nat.le_of_ble_eq_true rfl, Nat.le_of_ble_eq_true rfl⟩) (xpreV hK hW (k := 0) rfl (by decide) rfl) rfl rfl hl.1 rfl (lv_room (Nat.le_of_ble_eq_true rfl)) dX11_readAct_69 ⟨Nat.le_of_ble_eq_true rfl, Nat.le_of_ble_eq_true rfl⟩) hW (fun H locs hW => ?_)
            refine lv_if_eq (tgt := 134) hx hb dX11_readAct_72 (by decide) (fun c1 => ?_) (fun c1 => ?_)
            · have hr := br_p c1 hr
              refine lv_iconst (v := (0 : Int32)) hx hb dX11_readAct_134 (by decide) ?_
              obtain ⟨e1, e2⟩ := Prod.mk.inj (Option.some.inj hr)
              subst e1
              subst e2
              exact hj135_43 _ _ _ hW (lv_sub hl [0] rfl)
            · have hr := br_n c1 hr
              refine lv_aload_n hx hb dX11_readAct_75 rfl (lv_at hl 0 rfl) ?_
              refine lv_iconst (v := (1 : Int32)) hx hb dX11_readAct_76 (by decide) ?_
              refine lv_sipush (v := (1000 : Int32)) hx hb dX11_readAct_77 (by decide) ?_
              refine lv_ldc (v := (9999999 : Int32)) hx hb hown (hts _ (wm 3 rfl)) dX11_readAct_80 ?_
              obtain ⟨r_49, M_48, hc82, hr⟩ := ob2_e hr
              refine xk_i (va_runV (As := [.int (1 : Int32), .int (1000 : Int32), .int (9999999 : Int32)]) (rest := []) ⟨hx, hb, hml, hown, hts⟩ (c_X11_readNumber l D cA ad M_46 (1 : Int32) (1000 : Int32) (9999999 : Int32) hc82) (cwV 3 hts gX11_readAct_X11_readNumber rfl rfl rfl (by decide +kernel) ⟨Nat.le_of_ble_eq_true rfl, Nat.le_of_ble_eq_true rfl⟩) (xpreV hK hW (k := 0) rfl (by decide) rfl) rfl rfl hl.1 rfl (lv_room (Nat.le_of_ble_eq_true rfl)) dX11_readAct_82 ⟨Nat.le_of_ble_eq_true rfl, Nat.le_of_ble_eq_true rfl⟩) hW (fun H locs hW => ?_)
              refine lv_if_eq (tgt := 134) hx hb dX11_readAct_85 (by decide) (fun c1 => ?_) (fun c1 => ?_)
              · have hr := br_p c1 hr
                refine lv_iconst (v := (0 : Int32)) hx hb dX11_readAct_134 (by decide) ?_
                obtain ⟨e1, e2⟩ := Prod.mk.inj (Option.some.inj hr)
                subst e1
                subst e2
                exact hj135_43 _ _ _ hW (lv_sub hl [0] rfl)
              · have hr := br_n c1 hr
                refine lv_aload_n hx hb dX11_readAct_88 rfl (lv_at hl 0 rfl) ?_
                refine lv_bipush (v := (98 : Int32)) hx hb dX11_readAct_89 (by decide) ?_
                obtain ⟨r_51, M_50, hc91, hr⟩ := ob2_e hr
                refine xk_i (va_runV (As := [.int (98 : Int32)]) (rest := []) ⟨hx, hb, hml, hown, hts⟩ (c_X11_passes l D cA ad M_48 (98 : Int32) hc91) (cwV 1 hts gX11_readAct_X11_passes rfl rfl rfl (by decide +kernel) ⟨Nat.le_of_ble_eq_true rfl, Nat.le_of_ble_eq_true rfl⟩) (xpreV hK hW (k := 0) rfl (by decide) rfl) rfl rfl hl.1 rfl (lv_room (Nat.le_of_ble_eq_true rfl)) dX11_readAct_91 ⟨Nat.le_of_ble_eq_true rfl, Nat.le_of_ble_eq_true rfl⟩) hW (fun H locs hW => ?_)
                refine lv_if_eq (tgt := 134) hx hb dX11_readAct_94 (by decide) (fun c1 => ?_) (fun c1 => ?_)
                · have hr := br_p c1 hr
                  refine lv_iconst (v := (0 : Int32)) hx hb dX11_readAct_134 (by decide) ?_
                  obtain ⟨e1, e2⟩ := Prod.mk.inj (Option.some.inj hr)
                  subst e1
                  subst e2
                  exact hj135_43 _ _ _ hW (lv_sub hl [0] rfl)
                · have hr := br_n c1 hr
                  refine lv_aload_n hx hb dX11_readAct_97 rfl (lv_at hl 0 rfl) ?_
                  refine lv_iconst (v := (2 : Int32)) hx hb dX11_readAct_98 (by decide) ?_
                  refine lv_sipush (v := (1000 : Int32)) hx hb dX11_readAct_99 (by decide) ?_
                  refine lv_ldc (v := (9999999 : Int32)) hx hb hown (hts _ (wm 3 rfl)) dX11_readAct_102 ?_
                  obtain ⟨r_53, M_52, hc104, hr⟩ := ob2_e hr
                  refine xk_i (va_runV (As := [.int (2 : Int32), .int (1000 : Int32), .int (9999999 : Int32)]) (rest := []) ⟨hx, hb, hml, hown, hts⟩ (c_X11_readNumber l D cA ad M_50 (2 : Int32) (1000 : Int32) (9999999 : Int32) hc104) (cwV 3 hts gX11_readAct_X11_readNumber rfl rfl rfl (by decide +kernel) ⟨Nat.le_of_ble_eq_true rfl, Nat.le_of_ble_eq_true rfl⟩) (xpreV hK hW (k := 0) rfl (by decide) rfl) rfl rfl hl.1 rfl (lv_room (Nat.le_of_ble_eq_true rfl)) dX11_readAct_104 ⟨Nat.le_of_ble_eq_true rfl, Nat.le_of_ble_eq_true rfl⟩) hW (fun H locs hW => ?_)
                  refine lv_if_eq (tgt := 134) hx hb dX11_readAct_107 (by decide) (fun c1 => ?_) (fun c1 => ?_)
                  · have hr := br_p c1 hr
                    refine lv_iconst (v := (0 : Int32)) hx hb dX11_readAct_134 (by decide) ?_
                    obtain ⟨e1, e2⟩ := Prod.mk.inj (Option.some.inj hr)
                    subst e1
                    subst e2
                    exact hj135_43 _ _ _ hW (lv_sub hl [0] rfl)
                  · have hr := br_n c1 hr
                    refine lv_aload_n hx hb dX11_readAct_110 rfl (lv_at hl 0 rfl) ?_
                    refine lv_bipush (v := (113 : Int32)) hx hb dX11_readAct_111 (by decide) ?_
                    obtain ⟨r_55, M_54, hc113, hr⟩ := ob2_e hr
                    refine xk_i (va_runV (As := [.int (113 : Int32)]) (rest := []) ⟨hx, hb, hml, hown, hts⟩ (c_X11_passes l D cA ad M_52 (113 : Int32) hc113) (cwV 1 hts gX11_readAct_X11_passes rfl rfl rfl (by decide +kernel) ⟨Nat.le_of_ble_eq_true rfl, Nat.le_of_ble_eq_true rfl⟩) (xpreV hK hW (k := 0) rfl (by decide) rfl) rfl rfl hl.1 rfl (lv_room (Nat.le_of_ble_eq_true rfl)) dX11_readAct_113 ⟨Nat.le_of_ble_eq_true rfl, Nat.le_of_ble_eq_true rfl⟩) hW (fun H locs hW => ?_)
                    refine lv_if_eq (tgt := 134) hx hb dX11_readAct_116 (by decide) (fun c1 => ?_) (fun c1 => ?_)
                    · have hr := br_p c1 hr
                      refine lv_iconst (v := (0 : Int32)) hx hb dX11_readAct_134 (by decide) ?_
                      obtain ⟨e1, e2⟩ := Prod.mk.inj (Option.some.inj hr)
                      subst e1
                      subst e2
                      exact hj135_43 _ _ _ hW (lv_sub hl [0] rfl)
                    · have hr := br_n c1 hr
                      refine lv_aload_n hx hb dX11_readAct_119 rfl (lv_at hl 0 rfl) ?_
                      refine lv_iconst (v := (3 : Int32)) hx hb dX11_readAct_120 (by decide) ?_
                      refine lv_iconst (v := (0 : Int32)) hx hb dX11_readAct_121 (by decide) ?_
                      refine lv_bipush (v := (100 : Int32)) hx hb dX11_readAct_122 (by decide) ?_
                      obtain ⟨r_57, M_56, hc124, hr⟩ := ob2_e hr
                      refine xk_i (va_runV (As := [.int (3 : Int32), .int (0 : Int32), .int (100 : Int32)]) (rest := []) ⟨hx, hb, hml, hown, hts⟩ (c_X11_readNumber l D cA ad M_54 (3 : Int32) (0 : Int32) (100 : Int32) hc124) (cwV 3 hts gX11_readAct_X11_readNumber rfl rfl rfl (by decide +kernel) ⟨Nat.le_of_ble_eq_true rfl, Nat.le_of_ble_eq_true rfl⟩) (xpreV hK hW (k := 0) rfl (by decide) rfl) rfl rfl hl.1 rfl (lv_room (Nat.le_of_ble_eq_true rfl)) dX11_readAct_124 ⟨Nat.le_of_ble_eq_true rfl, Nat.le_of_ble_eq_true rfl⟩) hW (fun H locs hW => ?_)
                      refine lv_if_eq (tgt := 134) hx hb dX11_readAct_127 (by decide) (fun c1 => ?_) (fun c1 => ?_)
                      · have hr := br_p c1 hr
                        refine lv_iconst (v := (0 : Int32)) hx hb dX11_readAct_134 (by decide) ?_
                        obtain ⟨e1, e2⟩ := Prod.mk.inj (Option.some.inj hr)
                        subst e1
                        subst e2
                        exact hj135_43 _ _ _ hW (lv_sub hl [0] rfl)
                      · have hr := br_n c1 hr
                        refine lv_iconst (v := (1 : Int32)) hx hb dX11_readAct_130 (by decide) ?_
                        refine lv_goto (tgt := 135) hx hb dX11_readAct_131 (by decide) ?_
                        obtain ⟨e1, e2⟩ := Prod.mk.inj (Option.some.inj hr)
                        subst e1
                        subst e2
                        exact hj135_43 _ _ _ hW (lv_sub hl [0] rfl)
      · have hr := br_n c1 hr
        refine lv_iconst (v := (0 : Int32)) hx hb dX11_readAct_35 (by decide) ?_
        obtain ⟨e1, e2⟩ := Prod.mk.inj (Option.some.inj hr)
        rw [← e1, ← e2]
        exact xzret hx hb hr0 hlocks hW adR_rf (by decide) dX11_readAct_36

def f_X11_faultOf_L5 : Nat → Mm → Option (Int32 × Mm)
  | 0, _ => none
  | n + 1, M_2 =>
(if (gI M_2 0 9) ≤ (gI M_2 0 21) then (
some ((-1 : Int32), M_2)) else (
ob2 (f_X11_readAct M_2) fun r_4 M_3 =>
(if r_4 = (0 : Int32) then (
some ((gI M_3 0 21), M_3)) else (
f_X11_faultOf_L5 n M_3))))

def f_X11_faultOf (M : Mm) : Option (Int32 × Mm) :=
lt1 (wI M 0 21 (0 : Int32)) fun M_1 =>
f_X11_faultOf_L5 1000 M_1

set_option maxHeartbeats 4000000 in
set_option maxRecDepth 100000 in
theorem c_X11_faultOf (l : Launch) (D : va_G) (cA : Nat → ClassId) (ad : Nat → Nat) (M : Mm) {r : Int32} {M' : Mm} (hr : f_X11_faultOf M = some (r, M')) : Met l yX11_faultOf wsX11_faultOf ({ frames := 3, cells := 0, slots := 0, locals := 68 }) (PcX D false cA ad M [.ref (ad 0)]) (QiX false D false cA ad r M') 0 0 (AX false ad) := by
  refine Met.ofW (cc := cX11_faultOf) (maxL := 1) (ret := (some .int)) (by decide) rfl ?_
  intro p e s m args below meth c s₁ B hml hv
  obtain ⟨rfl, hP0, hK⟩ := hv
  have hx := B.exec
  have hb := B.bytes
  have hr0 := B.returns
  have hts := atoms_spec (ws := wsX11_faultOf) B.pre
  have hown : s.vm.findClass RX11 = some m.cls := findClass_of_methodNamed B.named
  have hlocks := B.notSynchronized
  have hW := xstart hP0
  have hi11 : ∀ w ∈ wsX110, w ∈ wsX11_faultOf := fun w h => List.mem_cons_of_mem _ (List.mem_append_right _ h)
  have hl := lv_entry ([.ref (ad 0)]) (n := 1) (Nat.le_of_ble_eq_true rfl)
  rw [lg_entry_eq]
  generalize (lg_sl ([.ref (ad 0)]) ++ List.replicate (1 - (lg_sl ([.ref (ad 0)])).length) Slot.unset).toArray = ls at hl ⊢
  have hl : lv_has ls 1 [(0, .ref (ad 0))] := hl
  clear hP0
  unfold f_X11_faultOf at hr
  refine lv_aload_n hx hb dX11_faultOf_0 rfl (lv_at hl 0 rfl) ?_
  refine lv_iconst (v := (0 : Int32)) hx hb dX11_faultOf_1 (by decide) ?_
  obtain ⟨M_1, eM_1, hr⟩ := lt1_e hr
  refine p11_21 hx hb hts hi11 hown hK hW (k := 0) rfl (hts _ (wm 1 rfl)) dX11_faultOf_2 (fun H locs hW => ?_)
  rw [← eM_1] at hW
  have hL5_1 : ∀ (n : Nat) (M_2 : Mm) (H : Heap) (locs : List Loc) (ls : Array Slot), Xw D false cA ad M_2 (AX false ad) s.heap H locs → lv_has ls 1 [(0, .ref (ad 0))] → f_X11_faultOf_L5 n M_2 = some (r, M') → W p l e (headSpec wsX11_faultOf { frames := 3, cells := 0, slots := 0, locals := 68 }).room s m args below meth c H locs 0 0 (MQ below (QiX false D false cA ad r M') args s 0 0 (AX false ad)) (F0 m 5 ls []) := by
    intro n
    induction n with
    | zero =>
      intro M_2 H locs ls hW hl hr
      exact absurd hr (by simp [f_X11_faultOf_L5])
    | succ n ih =>
      intro M_2 H locs ls hW hl hr
      rw [f_X11_faultOf_L5] at hr
      refine lv_aload_n hx hb dX11_faultOf_5 rfl (lv_at hl 0 rfl) ?_
      refine g11_21 hx hb hts hi11 hown hK hW (k := 0) rfl (hts _ (wm 1 rfl)) dX11_faultOf_6 ?_
      refine lv_aload_n hx hb dX11_faultOf_9 rfl (lv_at hl 0 rfl) ?_
      refine g11_9 hx hb hts hi11 hown hK hW (k := 0) rfl (hts _ (wm 2 rfl)) dX11_faultOf_10 ?_
      refine lv_icmp_ge (tgt := 28) hx hb dX11_faultOf_13 (by decide) (fun c1 => ?_) (fun c1 => ?_)
      · have hr := br_p c1 hr
        refine lv_iconst (v := (-1 : Int32)) hx hb dX11_faultOf_28 (by decide) ?_
        obtain ⟨e1, e2⟩ := Prod.mk.inj (Option.some.inj hr)
        rw [← e1, ← e2]
        exact xiret hx hb hr0 hlocks hW adR_rf dX11_faultOf_29
      · have hr := br_n c1 hr
        refine lv_aload_n hx hb dX11_faultOf_16 rfl (lv_at hl 0 rfl) ?_
        obtain ⟨r_4, M_3, hc17, hr⟩ := ob2_e hr
        refine xk_i (va_runV (As := []) (rest := []) ⟨hx, hb, hml, hown, hts⟩ (c_X11_readAct l D cA ad M_2 hc17) (cwV 0 hts gX11_faultOf_X11_readAct rfl rfl rfl (by decide +kernel) ⟨Nat.le_of_ble_eq_true rfl, Nat.le_of_ble_eq_true rfl⟩) (xpreV hK hW (k := 0) rfl (by decide) rfl) rfl rfl hl.1 rfl (lv_room (Nat.le_of_ble_eq_true rfl)) dX11_faultOf_17 ⟨Nat.le_of_ble_eq_true rfl, Nat.le_of_ble_eq_true rfl⟩) hW (fun H locs hW => ?_)
        refine lv_if_ne (tgt := 5) hx hb dX11_faultOf_20 (by decide) (fun c1 => ?_) (fun c1 => ?_)
        · have hr := br_n c1 hr
          exact ih M_3 _ _ _ hW (lv_sub hl [0] rfl) hr
        · have hr := br_p c1 hr
          refine lv_aload_n hx hb dX11_faultOf_23 rfl (lv_at hl 0 rfl) ?_
          refine g11_21 hx hb hts hi11 hown hK hW (k := 0) rfl (hts _ (wm 1 rfl)) dX11_faultOf_24 ?_
          obtain ⟨e1, e2⟩ := Prod.mk.inj (Option.some.inj hr)
          rw [← e1, ← e2]
          exact xiret hx hb hr0 hlocks hW adR_rf dX11_faultOf_27
  exact hL5_1 1000 M_1 _ _ _ hW (lv_sub hl [0] rfl) hr

def f_X11_faultPosition (M : Mm) : Option (Int32 × Mm) :=
ob2 (f_X11_faultOf M) fun r_2 M_1 =>
(if (0 : Int32) ≤ r_2 then (
some (r_2, M_1)) else (
some ((-2000000005 : Int32), M_1)))

set_option maxHeartbeats 4000000 in
set_option maxRecDepth 100000 in
theorem c_X11_faultPosition (l : Launch) (D : va_G) (cA : Nat → ClassId) (ad : Nat → Nat) (M : Mm) {r : Int32} {M' : Mm} (hr : f_X11_faultPosition M = some (r, M')) : Met l yX11_faultPosition wsX11_faultPosition ({ frames := 4, cells := 0, slots := 0, locals := 88 }) (PcX D false cA ad M [.ref (ad 0)]) (QiX false D false cA ad r M') 0 0 (AX false ad) := by
  refine Met.ofW (cc := cX11_faultPosition) (maxL := 2) (ret := (some .int)) (by decide) rfl ?_
  intro p e s m args below meth c s₁ B hml hv
  obtain ⟨rfl, hP0, hK⟩ := hv
  have hx := B.exec
  have hb := B.bytes
  have hr0 := B.returns
  have hts := atoms_spec (ws := wsX11_faultPosition) B.pre
  have hown : s.vm.findClass RX11 = some m.cls := findClass_of_methodNamed B.named
  have hlocks := B.notSynchronized
  have hW := xstart hP0
  have hl := lv_entry ([.ref (ad 0)]) (n := 2) (Nat.le_of_ble_eq_true rfl)
  rw [lg_entry_eq]
  generalize (lg_sl ([.ref (ad 0)]) ++ List.replicate (2 - (lg_sl ([.ref (ad 0)])).length) Slot.unset).toArray = ls at hl ⊢
  have hl : lv_has ls 2 [(0, .ref (ad 0))] := hl
  clear hP0
  unfold f_X11_faultPosition at hr
  refine lv_aload_n hx hb dX11_faultPosition_0 rfl (lv_at hl 0 rfl) ?_
  obtain ⟨r_2, M_1, hc1, hr⟩ := ob2_e hr
  refine xk_i (va_runV (As := []) (rest := []) ⟨hx, hb, hml, hown, hts⟩ (c_X11_faultOf l D cA ad M hc1) (cwV 0 hts gX11_faultPosition_X11_faultOf rfl rfl rfl (by decide +kernel) ⟨Nat.le_of_ble_eq_true rfl, Nat.le_of_ble_eq_true rfl⟩) (xpreV hK hW (k := 0) rfl (by decide) rfl) rfl rfl hl.1 rfl (lv_room (Nat.le_of_ble_eq_true rfl)) dX11_faultPosition_1 ⟨Nat.le_of_ble_eq_true rfl, Nat.le_of_ble_eq_true rfl⟩) hW (fun H locs hW => ?_)
  refine lv_istore_n (lv' := [(1, .int r_2), (0, .ref (ad 0))]) hx hb dX11_faultPosition_4 rfl hl (by decide) rfl (fun ls hl => ?_)
  refine lv_iload_n hx hb dX11_faultPosition_5 rfl (lv_at hl 0 rfl) ?_
  refine lv_if_ge (tgt := 14) hx hb dX11_faultPosition_6 (by decide) (fun c1 => ?_) (fun c1 => ?_)
  · have hr := br_p c1 hr
    refine lv_iload_n hx hb dX11_faultPosition_14 rfl (lv_at hl 0 rfl) ?_
    obtain ⟨e1, e2⟩ := Prod.mk.inj (Option.some.inj hr)
    rw [← e1, ← e2]
    exact xiret hx hb hr0 hlocks hW adR_rf dX11_faultPosition_15
  · have hr := br_n c1 hr
    refine lv_ldc (v := (-2000000005 : Int32)) hx hb hown (hts _ (wm 1 rfl)) dX11_faultPosition_9 ?_
    refine lv_goto (tgt := 15) hx hb dX11_faultPosition_11 (by decide) ?_
    obtain ⟨e1, e2⟩ := Prod.mk.inj (Option.some.inj hr)
    rw [← e1, ← e2]
    exact xiret hx hb hr0 hlocks hW adR_rf dX11_faultPosition_15

def f_X11_does (M : Mm) : Option (Int32 × Mm) :=
(if (gI M 0 22) = (115 : Int32) then (
ob1 (f_X11_whyShot (gI M 15 0) (gI M 15 1) (gI M 15 2) (gI M 15 3) M) fun r_13 =>
(if (0 : Int32) ≤ r_13 then (
ob2 (f_X11_shoots (gI M 15 0) (gI M 15 1) (gI M 15 2) (gI M 15 3) M) fun r_15 M_14 =>
some ((1 : Int32), M_14)) else (
some ((0 : Int32), M)))) else (
(if (gI M 0 22) = (99 : Int32) then (
(if (gI M 1 64) = (0 : Int32) then (
some ((0 : Int32), M)) else (
ob2 ((if (gI M 0 22) = (99 : Int32) then (
ob2 (f_X11_closes M) fun r_12 M_11 =>
some (r_12, M_11)) else (
ob2 (f_X11_swaps M) fun r_10 M_9 =>
some (r_10, M_9)))) fun y_7 M_8 =>
some ((1 : Int32), M_8)))) else (
ob2 ((if (gI M 0 22) = (99 : Int32) then (
ob2 (f_X11_closes M) fun r_6 M_5 =>
some (r_6, M_5)) else (
ob2 (f_X11_swaps M) fun r_4 M_3 =>
some (r_4, M_3)))) fun y_1 M_2 =>
some ((1 : Int32), M_2)))))

set_option maxHeartbeats 4000000 in
set_option maxRecDepth 100000 in
theorem c_X11_does (l : Launch) (D : va_G) (cA : Nat → ClassId) (ad : Nat → Nat) (M : Mm) {r : Int32} {M' : Mm} (hr : f_X11_does M = some (r, M')) : Met l yX11_does wsX11_does ({ frames := 5, cells := 0, slots := 0, locals := 121 }) (PcX D false cA ad M [.ref (ad 0)]) (QiX false D false cA ad r M') 0 0 (AX false ad) := by
  refine Met.ofW (cc := cX11_does) (maxL := 2) (ret := (some .boolean)) (by decide) rfl ?_
  intro p e s m args below meth c s₁ B hml hv
  obtain ⟨rfl, hP0, hK⟩ := hv
  have hx := B.exec
  have hb := B.bytes
  have hr0 := B.returns
  have hts := atoms_spec (ws := wsX11_does) B.pre
  have hown : s.vm.findClass RX11 = some m.cls := findClass_of_methodNamed B.named
  have hlocks := B.notSynchronized
  have hW := xstart hP0
  have hi11 : ∀ w ∈ wsX110, w ∈ wsX11_does := fun w h => List.mem_cons_of_mem _ (List.mem_append_right _ h)
  have hl := lv_entry ([.ref (ad 0)]) (n := 2) (Nat.le_of_ble_eq_true rfl)
  rw [lg_entry_eq]
  generalize (lg_sl ([.ref (ad 0)]) ++ List.replicate (2 - (lg_sl ([.ref (ad 0)])).length) Slot.unset).toArray = ls at hl ⊢
  have hl : lv_has ls 2 [(0, .ref (ad 0))] := hl
  clear hP0
  unfold f_X11_does at hr
  refine lv_aload_n hx hb dX11_does_0 rfl (lv_at hl 0 rfl) ?_
  refine g11_22 hx hb hts hi11 hown hK hW (k := 0) rfl (hts _ (wm 1 rfl)) dX11_does_1 ?_
  refine lv_bipush (v := (115 : Int32)) hx hb dX11_does_4 (by decide) ?_
  refine lv_icmp_ne (tgt := 73) hx hb dX11_does_6 (by decide) (fun c1 => ?_) (fun c1 => ?_)
  · have hr := br_n c1 hr
    refine lv_aload_n hx hb dX11_does_73 rfl (lv_at hl 0 rfl) ?_
    refine g11_22 hx hb hts hi11 hown hK hW (k := 0) rfl (hts _ (wm 1 rfl)) dX11_does_74 ?_
    refine lv_bipush (v := (99 : Int32)) hx hb dX11_does_77 (by decide) ?_
    refine lv_icmp_ne (tgt := 94) hx hb dX11_does_79 (by decide) (fun c1 => ?_) (fun c1 => ?_)
    · have hr := br_n c1 hr
      refine lv_aload_n hx hb dX11_does_94 rfl (lv_at hl 0 rfl) ?_
      refine g11_22 hx hb hts hi11 hown hK hW (k := 0) rfl (hts _ (wm 1 rfl)) dX11_does_95 ?_
      refine lv_bipush (v := (99 : Int32)) hx hb dX11_does_98 (by decide) ?_
      obtain ⟨y_1, M_2, hr, hr3⟩ := ob2_e hr
      have hj114_2 : ∀ (H : Heap) (locs : List Loc) (ls : Array Slot), Xw D false cA ad M_2 (AX false ad) s.heap H locs → lv_has ls 2 [] → W p l e (headSpec wsX11_does { frames := 5, cells := 0, slots := 0, locals := 121 }).room s m args below meth c H locs 0 0 (MQ below (QiX false D false cA ad r M') args s 0 0 (AX false ad)) (F0 m 114 ls [.int y_1]) := by
        intro H locs ls hW hl
        have hr := hr3
        refine lv_istore_n (lv' := [(1, .int y_1)]) hx hb dX11_does_114 rfl hl (by decide) rfl (fun ls hl => ?_)
        refine lv_iconst (v := (1 : Int32)) hx hb dX11_does_115 (by decide) ?_
        obtain ⟨e1, e2⟩ := Prod.mk.inj (Option.some.inj hr)
        rw [← e1, ← e2]
        exact xzret hx hb hr0 hlocks hW adR_rf (by decide) dX11_does_116
      clear hr3
      refine lv_icmp_ne (tgt := 110) hx hb dX11_does_100 (by decide) (fun c1 => ?_) (fun c1 => ?_)
      · have hr := br_n c1 hr
        refine lv_aload_n hx hb dX11_does_110 rfl (lv_at hl 0 rfl) ?_
        obtain ⟨r_4, M_3, hc111, hr⟩ := ob2_e hr
        refine xk_i (va_runV (As := []) (rest := []) ⟨hx, hb, hml, hown, hts⟩ (c_X11_swaps l D cA ad M hc111) (cwV 0 hts gX11_does_X11_swaps rfl rfl rfl (by decide +kernel) ⟨Nat.le_of_ble_eq_true rfl, Nat.le_of_ble_eq_true rfl⟩) (xpreV hK hW (k := 0) rfl (by decide) rfl) rfl rfl hl.1 rfl (lv_room (Nat.le_of_ble_eq_true rfl)) dX11_does_111 ⟨Nat.le_of_ble_eq_true rfl, Nat.le_of_ble_eq_true rfl⟩) hW (fun H locs hW => ?_)
        obtain ⟨e1, e2⟩ := Prod.mk.inj (Option.some.inj hr)
        subst e1
        subst e2
        exact hj114_2 _ _ _ hW (lv_sub hl [] rfl)
      · have hr := br_p c1 hr
        refine lv_aload_n hx hb dX11_does_103 rfl (lv_at hl 0 rfl) ?_
        obtain ⟨r_6, M_5, hc104, hr⟩ := ob2_e hr
        refine xk_i (va_runV (As := []) (rest := []) ⟨hx, hb, hml, hown, hts⟩ (c_X11_closes l D cA ad M hc104) (cwV 0 hts gX11_does_X11_closes rfl rfl rfl (by decide +kernel) ⟨Nat.le_of_ble_eq_true rfl, Nat.le_of_ble_eq_true rfl⟩) (xpreV hK hW (k := 0) rfl (by decide) rfl) rfl rfl hl.1 rfl (lv_room (Nat.le_of_ble_eq_true rfl)) dX11_does_104 ⟨Nat.le_of_ble_eq_true rfl, Nat.le_of_ble_eq_true rfl⟩) hW (fun H locs hW => ?_)
        refine lv_goto (tgt := 114) hx hb dX11_does_107 (by decide) ?_
        obtain ⟨e1, e2⟩ := Prod.mk.inj (Option.some.inj hr)
        subst e1
        subst e2
        exact hj114_2 _ _ _ hW (lv_sub hl [] rfl)
    · have hr := br_p c1 hr
      refine lv_aload_n hx hb dX11_does_82 rfl (lv_at hl 0 rfl) ?_
      refine g11_0 hx hb hts hi11 hown hK hW (k := 0) rfl (hts _ (wm 3 rfl)) dX11_does_83 ?_
      refine lv_bipush (v := (64 : Int32)) hx hb dX11_does_86 (by decide) ?_
      refine xiald hx hb hK hW (k := 1) (t := 24) rfl (by decide) (by decide) rfl (n := 159) (by decide) (jx := 64) (by decide) dX11_does_88 ?_
      refine lv_if_ne (tgt := 94) hx hb dX11_does_89 (by decide) (fun c1 => ?_) (fun c1 => ?_)
      · have hr := br_n c1 hr
        refine lv_aload_n hx hb dX11_does_94 rfl (lv_at hl 0 rfl) ?_
        refine g11_22 hx hb hts hi11 hown hK hW (k := 0) rfl (hts _ (wm 1 rfl)) dX11_does_95 ?_
        refine lv_bipush (v := (99 : Int32)) hx hb dX11_does_98 (by decide) ?_
        obtain ⟨y_7, M_8, hr, hr3⟩ := ob2_e hr
        have hj114_8 : ∀ (H : Heap) (locs : List Loc) (ls : Array Slot), Xw D false cA ad M_8 (AX false ad) s.heap H locs → lv_has ls 2 [] → W p l e (headSpec wsX11_does { frames := 5, cells := 0, slots := 0, locals := 121 }).room s m args below meth c H locs 0 0 (MQ below (QiX false D false cA ad r M') args s 0 0 (AX false ad)) (F0 m 114 ls [.int y_7]) := by
          intro H locs ls hW hl
          have hr := hr3
          refine lv_istore_n (lv' := [(1, .int y_7)]) hx hb dX11_does_114 rfl hl (by decide) rfl (fun ls hl => ?_)
          refine lv_iconst (v := (1 : Int32)) hx hb dX11_does_115 (by decide) ?_
          obtain ⟨e1, e2⟩ := Prod.mk.inj (Option.some.inj hr)
          rw [← e1, ← e2]
          exact xzret hx hb hr0 hlocks hW adR_rf (by decide) dX11_does_116
        clear hr3
        refine lv_icmp_ne (tgt := 110) hx hb dX11_does_100 (by decide) (fun c1 => ?_) (fun c1 => ?_)
        · have hr := br_n c1 hr
          refine lv_aload_n hx hb dX11_does_110 rfl (lv_at hl 0 rfl) ?_
          obtain ⟨r_10, M_9, hc111, hr⟩ := ob2_e hr
          refine xk_i (va_runV (As := []) (rest := []) ⟨hx, hb, hml, hown, hts⟩ (c_X11_swaps l D cA ad M hc111) (cwV 0 hts gX11_does_X11_swaps rfl rfl rfl (by decide +kernel) ⟨Nat.le_of_ble_eq_true rfl, Nat.le_of_ble_eq_true rfl⟩) (xpreV hK hW (k := 0) rfl (by decide) rfl) rfl rfl hl.1 rfl (lv_room (Nat.le_of_ble_eq_true rfl)) dX11_does_111 ⟨Nat.le_of_ble_eq_true rfl, Nat.le_of_ble_eq_true rfl⟩) hW (fun H locs hW => ?_)
          obtain ⟨e1, e2⟩ := Prod.mk.inj (Option.some.inj hr)
          subst e1
          subst e2
          exact hj114_8 _ _ _ hW (lv_sub hl [] rfl)
        · have hr := br_p c1 hr
          refine lv_aload_n hx hb dX11_does_103 rfl (lv_at hl 0 rfl) ?_
          obtain ⟨r_12, M_11, hc104, hr⟩ := ob2_e hr
          refine xk_i (va_runV (As := []) (rest := []) ⟨hx, hb, hml, hown, hts⟩ (c_X11_closes l D cA ad M hc104) (cwV 0 hts gX11_does_X11_closes rfl rfl rfl (by decide +kernel) ⟨Nat.le_of_ble_eq_true rfl, Nat.le_of_ble_eq_true rfl⟩) (xpreV hK hW (k := 0) rfl (by decide) rfl) rfl rfl hl.1 rfl (lv_room (Nat.le_of_ble_eq_true rfl)) dX11_does_104 ⟨Nat.le_of_ble_eq_true rfl, Nat.le_of_ble_eq_true rfl⟩) hW (fun H locs hW => ?_)
          refine lv_goto (tgt := 114) hx hb dX11_does_107 (by decide) ?_
          obtain ⟨e1, e2⟩ := Prod.mk.inj (Option.some.inj hr)
          subst e1
          subst e2
          exact hj114_8 _ _ _ hW (lv_sub hl [] rfl)
      · have hr := br_p c1 hr
        refine lv_iconst (v := (0 : Int32)) hx hb dX11_does_92 (by decide) ?_
        obtain ⟨e1, e2⟩ := Prod.mk.inj (Option.some.inj hr)
        rw [← e1, ← e2]
        exact xzret hx hb hr0 hlocks hW adR_rf (by decide) dX11_does_93
  · have hr := br_p c1 hr
    refine lv_aload_n hx hb dX11_does_9 rfl (lv_at hl 0 rfl) ?_
    refine lv_aload_n hx hb dX11_does_10 rfl (lv_at hl 0 rfl) ?_
    refine g11_23 hx hb hts hi11 hown hK hW (k := 0) rfl (hts _ (wm 2 rfl)) dX11_does_11 ?_
    refine lv_iconst (v := (0 : Int32)) hx hb dX11_does_14 (by decide) ?_
    refine xiald hx hb hK hW (k := 15) (t := 20) rfl (by decide) (by decide) rfl (n := 4) (by decide) (jx := 0) (by decide) dX11_does_15 ?_
    refine lv_aload_n hx hb dX11_does_16 rfl (lv_at hl 0 rfl) ?_
    refine g11_23 hx hb hts hi11 hown hK hW (k := 0) rfl (hts _ (wm 2 rfl)) dX11_does_17 ?_
    refine lv_iconst (v := (1 : Int32)) hx hb dX11_does_20 (by decide) ?_
    refine xiald hx hb hK hW (k := 15) (t := 20) rfl (by decide) (by decide) rfl (n := 4) (by decide) (jx := 1) (by decide) dX11_does_21 ?_
    refine lv_aload_n hx hb dX11_does_22 rfl (lv_at hl 0 rfl) ?_
    refine g11_23 hx hb hts hi11 hown hK hW (k := 0) rfl (hts _ (wm 2 rfl)) dX11_does_23 ?_
    refine lv_iconst (v := (2 : Int32)) hx hb dX11_does_26 (by decide) ?_
    refine xiald hx hb hK hW (k := 15) (t := 20) rfl (by decide) (by decide) rfl (n := 4) (by decide) (jx := 2) (by decide) dX11_does_27 ?_
    refine lv_aload_n hx hb dX11_does_28 rfl (lv_at hl 0 rfl) ?_
    refine g11_23 hx hb hts hi11 hown hK hW (k := 0) rfl (hts _ (wm 2 rfl)) dX11_does_29 ?_
    refine lv_iconst (v := (3 : Int32)) hx hb dX11_does_32 (by decide) ?_
    refine xiald hx hb hK hW (k := 15) (t := 20) rfl (by decide) (by decide) rfl (n := 4) (by decide) (jx := 3) (by decide) dX11_does_33 ?_
    obtain ⟨r_13, hc34, hr⟩ := ob1_e hr
    refine xk_i (va_runV (As := [.int (gI M 15 0), .int (gI M 15 1), .int (gI M 15 2), .int (gI M 15 3)]) (rest := []) ⟨hx, hb, hml, hown, hts⟩ (c_X11_whyShot l D cA ad M (gI M 15 0) (gI M 15 1) (gI M 15 2) (gI M 15 3) hc34) (cwV 4 hts gX11_does_X11_whyShot rfl rfl rfl (by decide +kernel) ⟨Nat.le_of_ble_eq_true rfl, Nat.le_of_ble_eq_true rfl⟩) (xpreV hK hW (k := 0) rfl (by decide) rfl) rfl rfl hl.1 rfl (lv_room (Nat.le_of_ble_eq_true rfl)) dX11_does_34 ⟨Nat.le_of_ble_eq_true rfl, Nat.le_of_ble_eq_true rfl⟩) hW (fun H locs hW => ?_)
    refine lv_if_ge (tgt := 42) hx hb dX11_does_37 (by decide) (fun c1 => ?_) (fun c1 => ?_)
    · have hr := br_p c1 hr
      refine lv_aload_n hx hb dX11_does_42 rfl (lv_at hl 0 rfl) ?_
      refine lv_aload_n hx hb dX11_does_43 rfl (lv_at hl 0 rfl) ?_
      refine g11_23 hx hb hts hi11 hown hK hW (k := 0) rfl (hts _ (wm 2 rfl)) dX11_does_44 ?_
      refine lv_iconst (v := (0 : Int32)) hx hb dX11_does_47 (by decide) ?_
      refine xiald hx hb hK hW (k := 15) (t := 20) rfl (by decide) (by decide) rfl (n := 4) (by decide) (jx := 0) (by decide) dX11_does_48 ?_
      refine lv_aload_n hx hb dX11_does_49 rfl (lv_at hl 0 rfl) ?_
      refine g11_23 hx hb hts hi11 hown hK hW (k := 0) rfl (hts _ (wm 2 rfl)) dX11_does_50 ?_
      refine lv_iconst (v := (1 : Int32)) hx hb dX11_does_53 (by decide) ?_
      refine xiald hx hb hK hW (k := 15) (t := 20) rfl (by decide) (by decide) rfl (n := 4) (by decide) (jx := 1) (by decide) dX11_does_54 ?_
      refine lv_aload_n hx hb dX11_does_55 rfl (lv_at hl 0 rfl) ?_
      refine g11_23 hx hb hts hi11 hown hK hW (k := 0) rfl (hts _ (wm 2 rfl)) dX11_does_56 ?_
      refine lv_iconst (v := (2 : Int32)) hx hb dX11_does_59 (by decide) ?_
      refine xiald hx hb hK hW (k := 15) (t := 20) rfl (by decide) (by decide) rfl (n := 4) (by decide) (jx := 2) (by decide) dX11_does_60 ?_
      refine lv_aload_n hx hb dX11_does_61 rfl (lv_at hl 0 rfl) ?_
      refine g11_23 hx hb hts hi11 hown hK hW (k := 0) rfl (hts _ (wm 2 rfl)) dX11_does_62 ?_
      refine lv_iconst (v := (3 : Int32)) hx hb dX11_does_65 (by decide) ?_
      refine xiald hx hb hK hW (k := 15) (t := 20) rfl (by decide) (by decide) rfl (n := 4) (by decide) (jx := 3) (by decide) dX11_does_66 ?_
      obtain ⟨r_15, M_14, hc67, hr⟩ := ob2_e hr
      refine xk_i (va_runV (As := [.int (gI M 15 0), .int (gI M 15 1), .int (gI M 15 2), .int (gI M 15 3)]) (rest := []) ⟨hx, hb, hml, hown, hts⟩ (c_X11_shoots l D cA ad M (gI M 15 0) (gI M 15 1) (gI M 15 2) (gI M 15 3) hc67) (cwV 4 hts gX11_does_X11_shoots rfl rfl rfl (by decide +kernel) ⟨Nat.le_of_ble_eq_true rfl, Nat.le_of_ble_eq_true rfl⟩) (xpreV hK hW (k := 0) rfl (by decide) rfl) rfl rfl hl.1 rfl (lv_room (Nat.le_of_ble_eq_true rfl)) dX11_does_67 ⟨Nat.le_of_ble_eq_true rfl, Nat.le_of_ble_eq_true rfl⟩) hW (fun H locs hW => ?_)
      refine lv_istore_n (lv' := [(1, .int r_15), (0, .ref (ad 0))]) hx hb dX11_does_70 rfl hl (by decide) rfl (fun ls hl => ?_)
      refine lv_iconst (v := (1 : Int32)) hx hb dX11_does_71 (by decide) ?_
      obtain ⟨e1, e2⟩ := Prod.mk.inj (Option.some.inj hr)
      rw [← e1, ← e2]
      exact xzret hx hb hr0 hlocks hW adR_rf (by decide) dX11_does_72
    · have hr := br_n c1 hr
      refine lv_iconst (v := (0 : Int32)) hx hb dX11_does_40 (by decide) ?_
      obtain ⟨e1, e2⟩ := Prod.mk.inj (Option.some.inj hr)
      rw [← e1, ← e2]
      exact xzret hx hb hr0 hlocks hW adR_rf (by decide) dX11_does_41

def f_X11_run_L21 : Nat → Int32 → Mm → Option (Int32 × Mm)
  | 0, _, _ => none
  | n + 1, x1_5, M_6 =>
(if (gI M_6 0 9) ≤ (gI M_6 0 21) then (
some (x1_5, M_6)) else (
ob2 (f_X11_readAct M_6) fun r_10 M_9 =>
(if r_10 = (0 : Int32) then (
some (x1_5, M_9)) else (
ob2 (f_X11_does M_9) fun r_12 M_11 =>
(if r_12 = (0 : Int32) then (
some (x1_5, M_11)) else (
lt1 (x1_5 + (1 : Int32)) fun x1_13 =>
f_X11_run_L21 n x1_13 M_11))))))

def f_X11_run (M : Mm) : Option (Int32 × Mm) :=
ob2 (f_X11_faultOf M) fun r_2 M_1 =>
(if r_2 < (0 : Int32) then (
ob1 (f_X11_records M_1) fun M_3 =>
lt1 (wI M_3 0 21 (0 : Int32)) fun M_4 =>
ob2 (f_X11_run_L21 1000 (0 : Int32) M_4) fun x1_7 M_8 =>
some (x1_7, M_8)) else (
some ((-2000000003 : Int32), M_1)))

set_option maxHeartbeats 4000000 in
set_option maxRecDepth 100000 in
theorem c_X11_run (l : Launch) (D : va_G) (cA : Nat → ClassId) (ad : Nat → Nat) (M : Mm) {r : Int32} {M' : Mm} (hr : f_X11_run M = some (r, M')) : Met l yX11_run wsX11_run ({ frames := 6, cells := 0, slots := 0, locals := 142 }) (PcX D false cA ad M [.ref (ad 0)]) (QiX false D false cA ad r M') 0 0 (AX false ad) := by
  refine Met.ofW (cc := cX11_run) (maxL := 2) (ret := (some .int)) (by decide) rfl ?_
  intro p e s m args below meth c s₁ B hml hv
  obtain ⟨rfl, hP0, hK⟩ := hv
  have hx := B.exec
  have hb := B.bytes
  have hr0 := B.returns
  have hts := atoms_spec (ws := wsX11_run) B.pre
  have hown : s.vm.findClass RX11 = some m.cls := findClass_of_methodNamed B.named
  have hlocks := B.notSynchronized
  have hW := xstart hP0
  have hi11 : ∀ w ∈ wsX110, w ∈ wsX11_run := fun w h => List.mem_cons_of_mem _ (List.mem_append_right _ h)
  have hl := lv_entry ([.ref (ad 0)]) (n := 2) (Nat.le_of_ble_eq_true rfl)
  rw [lg_entry_eq]
  generalize (lg_sl ([.ref (ad 0)]) ++ List.replicate (2 - (lg_sl ([.ref (ad 0)])).length) Slot.unset).toArray = ls at hl ⊢
  have hl : lv_has ls 2 [(0, .ref (ad 0))] := hl
  clear hP0
  unfold f_X11_run at hr
  refine lv_aload_n hx hb dX11_run_0 rfl (lv_at hl 0 rfl) ?_
  obtain ⟨r_2, M_1, hc1, hr⟩ := ob2_e hr
  refine xk_i (va_runV (As := []) (rest := []) ⟨hx, hb, hml, hown, hts⟩ (c_X11_faultOf l D cA ad M hc1) (cwV 0 hts gX11_run_X11_faultOf rfl rfl rfl (by decide +kernel) ⟨Nat.le_of_ble_eq_true rfl, Nat.le_of_ble_eq_true rfl⟩) (xpreV hK hW (k := 0) rfl (by decide) rfl) rfl rfl hl.1 rfl (lv_room (Nat.le_of_ble_eq_true rfl)) dX11_run_1 ⟨Nat.le_of_ble_eq_true rfl, Nat.le_of_ble_eq_true rfl⟩) hW (fun H locs hW => ?_)
  refine lv_if_lt (tgt := 10) hx hb dX11_run_4 (by decide) (fun c1 => ?_) (fun c1 => ?_)
  · have hr := br_p c1 hr
    refine lv_aload_n hx hb dX11_run_10 rfl (lv_at hl 0 rfl) ?_
    obtain ⟨M_3, hc11, hr⟩ := ob1_e hr
    refine xk_v (va_runV (As := []) (rest := []) ⟨hx, hb, hml, hown, hts⟩ (c_X11_records l D cA ad M_1 hc11) (cwV 0 hts gX11_run_X11_records rfl rfl rfl (by decide +kernel) ⟨Nat.le_of_ble_eq_true rfl, Nat.le_of_ble_eq_true rfl⟩) (xpreV hK hW (k := 0) rfl (by decide) rfl) rfl rfl hl.1 rfl (lv_room (Nat.le_of_ble_eq_true rfl)) dX11_run_11 ⟨Nat.le_of_ble_eq_true rfl, Nat.le_of_ble_eq_true rfl⟩) hW (fun H locs hW => ?_)
    refine lv_aload_n hx hb dX11_run_14 rfl (lv_at hl 0 rfl) ?_
    refine lv_iconst (v := (0 : Int32)) hx hb dX11_run_15 (by decide) ?_
    obtain ⟨M_4, eM_4, hr⟩ := lt1_e hr
    refine p11_21 hx hb hts hi11 hown hK hW (k := 0) rfl (hts _ (wm 2 rfl)) dX11_run_16 (fun H locs hW => ?_)
    rw [← eM_4] at hW
    refine lv_iconst (v := (0 : Int32)) hx hb dX11_run_19 (by decide) ?_
    refine lv_istore_n (lv' := [(1, .int (0 : Int32)), (0, .ref (ad 0))]) hx hb dX11_run_20 rfl hl (by decide) rfl (fun ls hl => ?_)
    have hL21_1 : ∀ (n : Nat) (x1_5 : Int32) (M_6 : Mm) (H : Heap) (locs : List Loc) (ls : Array Slot) (x1_7 : Int32) (M_8 : Mm), Xw D false cA ad M_6 (AX false ad) s.heap H locs → lv_has ls 2 [(0, .ref (ad 0)), (1, .int x1_5)] → f_X11_run_L21 n x1_5 M_6 = some (x1_7, M_8) → (∀ (H : Heap) (locs : List Loc) (ls : Array Slot), Xw D false cA ad M_8 (AX false ad) s.heap H locs → lv_has ls 2 [(1, .int x1_7)] → W p l e (headSpec wsX11_run { frames := 6, cells := 0, slots := 0, locals := 142 }).room s m args below meth c H locs 0 0 (MQ below (QiX false D false cA ad r M') args s 0 0 (AX false ad)) (F0 m 52 ls [])) → W p l e (headSpec wsX11_run { frames := 6, cells := 0, slots := 0, locals := 142 }).room s m args below meth c H locs 0 0 (MQ below (QiX false D false cA ad r M') args s 0 0 (AX false ad)) (F0 m 21 ls []) := by
      intro n
      induction n with
      | zero =>
        intro x1_5 M_6 H locs ls x1_7 M_8 hW hl hr hk
        exact absurd hr (by simp [f_X11_run_L21])
      | succ n ih =>
        intro x1_5 M_6 H locs ls x1_7 M_8 hW hl hr hk
        rw [f_X11_run_L21] at hr
        refine lv_aload_n hx hb dX11_run_21 rfl (lv_at hl 0 rfl) ?_
        refine g11_21 hx hb hts hi11 hown hK hW (k := 0) rfl (hts _ (wm 2 rfl)) dX11_run_22 ?_
        refine lv_aload_n hx hb dX11_run_25 rfl (lv_at hl 0 rfl) ?_
        refine g11_9 hx hb hts hi11 hown hK hW (k := 0) rfl (hts _ (wm 3 rfl)) dX11_run_26 ?_
        refine lv_icmp_ge (tgt := 52) hx hb dX11_run_29 (by decide) (fun c1 => ?_) (fun c1 => ?_)
        · have hr := br_p c1 hr
          obtain ⟨e1, e2⟩ := Prod.mk.inj (Option.some.inj hr)
          subst e1
          subst e2
          exact hk _ _ _ hW (lv_sub hl [1] rfl)
        · have hr := br_n c1 hr
          refine lv_aload_n hx hb dX11_run_32 rfl (lv_at hl 0 rfl) ?_
          obtain ⟨r_10, M_9, hc33, hr⟩ := ob2_e hr
          refine xk_i (va_runV (As := []) (rest := []) ⟨hx, hb, hml, hown, hts⟩ (c_X11_readAct l D cA ad M_6 hc33) (cwV 0 hts gX11_run_X11_readAct rfl rfl rfl (by decide +kernel) ⟨Nat.le_of_ble_eq_true rfl, Nat.le_of_ble_eq_true rfl⟩) (xpreV hK hW (k := 0) rfl (by decide) rfl) rfl rfl hl.1 rfl (lv_room (Nat.le_of_ble_eq_true rfl)) dX11_run_33 ⟨Nat.le_of_ble_eq_true rfl, Nat.le_of_ble_eq_true rfl⟩) hW (fun H locs hW => ?_)
          refine lv_if_eq (tgt := 52) hx hb dX11_run_36 (by decide) (fun c1 => ?_) (fun c1 => ?_)
          · have hr := br_p c1 hr
            obtain ⟨e1, e2⟩ := Prod.mk.inj (Option.some.inj hr)
            subst e1
            subst e2
            exact hk _ _ _ hW (lv_sub hl [1] rfl)
          · have hr := br_n c1 hr
            refine lv_aload_n hx hb dX11_run_39 rfl (lv_at hl 0 rfl) ?_
            obtain ⟨r_12, M_11, hc40, hr⟩ := ob2_e hr
            refine xk_i (va_runV (As := []) (rest := []) ⟨hx, hb, hml, hown, hts⟩ (c_X11_does l D cA ad M_9 hc40) (cwV 0 hts gX11_run_X11_does rfl rfl rfl (by decide +kernel) ⟨Nat.le_of_ble_eq_true rfl, Nat.le_of_ble_eq_true rfl⟩) (xpreV hK hW (k := 0) rfl (by decide) rfl) rfl rfl hl.1 rfl (lv_room (Nat.le_of_ble_eq_true rfl)) dX11_run_40 ⟨Nat.le_of_ble_eq_true rfl, Nat.le_of_ble_eq_true rfl⟩) hW (fun H locs hW => ?_)
            refine lv_if_eq (tgt := 52) hx hb dX11_run_43 (by decide) (fun c1 => ?_) (fun c1 => ?_)
            · have hr := br_p c1 hr
              obtain ⟨e1, e2⟩ := Prod.mk.inj (Option.some.inj hr)
              subst e1
              subst e2
              exact hk _ _ _ hW (lv_sub hl [1] rfl)
            · have hr := br_n c1 hr
              obtain ⟨x1_13, ex1_13, hr⟩ := lt1_e hr
              refine lv_iinc (v := x1_13) (lv' := [(1, .int x1_13), (0, .ref (ad 0))]) hx hb dX11_run_46 hl (k := 1) rfl (by rw [ex1_13]; rfl) (by decide) rfl (fun ls hl => ?_)
              refine lv_goto (tgt := 21) hx hb dX11_run_49 (by decide) ?_
              exact ih x1_13 M_11 _ _ _ hW (lv_sub hl [1, 0] rfl) _ _ hr hk
    obtain ⟨x1_7, M_8, hr, hr3⟩ := ob2_e hr
    refine hL21_1 1000 (0 : Int32) M_4 _ _ _ x1_7 M_8 hW (lv_sub hl [1, 0] rfl) hr (fun H locs ls hW hl => ?_)
    clear hr
    have hr := hr3
    refine lv_iload_n hx hb dX11_run_52 rfl (lv_at hl 0 rfl) ?_
    obtain ⟨e1, e2⟩ := Prod.mk.inj (Option.some.inj hr)
    rw [← e1, ← e2]
    exact xiret hx hb hr0 hlocks hW adR_rf dX11_run_53
  · have hr := br_n c1 hr
    refine lv_ldc (v := (-2000000003 : Int32)) hx hb hown (hts _ (wm 1 rfl)) dX11_run_7 ?_
    obtain ⟨e1, e2⟩ := Prod.mk.inj (Option.some.inj hr)
    rw [← e1, ← e2]
    exact xiret hx hb hr0 hlocks hW adR_rf dX11_run_9

def f_X11_undo_L22 : Nat → Int32 → Mm → Option Mm
  | 0, _, _ => none
  | n + 1, x1_2, M_3 =>
(if (159 : Int32) ≤ x1_2 then (
some M_3) else (
chk (inb (((159 : Int32) * (gI M_3 0 4)) + x1_2) 795) <|
chk (inb x1_2 159) <|
lt1 (wI M_3 1 (ix x1_2) (gI M_3 3 (ix (((159 : Int32) * (gI M_3 0 4)) + x1_2)))) fun M_5 =>
lt1 (x1_2 + (1 : Int32)) fun x1_6 =>
f_X11_undo_L22 n x1_6 M_5))

def f_X11_undo (M : Mm) : Option (Int32 × Mm) :=
(if (gI M 0 4) = (0 : Int32) then (
some ((-2000000003 : Int32), M)) else (
lt1 (wI M 0 4 ((gI M 0 4) - (1 : Int32))) fun M_1 =>
ob1 (f_X11_undo_L22 1000 (0 : Int32) M_1) fun M_4 =>
chk (inb ((2 : Int32) * (gI M_4 0 4)) 10) <|
lt1 (wJ M_4 2 0 (gJ M_4 4 (ix ((2 : Int32) * (gI M_4 0 4))))) fun M_7 =>
chk (inb (((2 : Int32) * (gI M_7 0 4)) + (1 : Int32)) 10) <|
lt1 (wJ M_7 2 1 (gJ M_7 4 (ix (((2 : Int32) * (gI M_7 0 4)) + (1 : Int32))))) fun M_8 =>
some ((gI M_8 0 4), M_8)))

set_option maxHeartbeats 4000000 in
set_option maxRecDepth 100000 in
theorem c_X11_undo (l : Launch) (D : va_G) (cA : Nat → ClassId) (ad : Nat → Nat) (M : Mm) {r : Int32} {M' : Mm} (hr : f_X11_undo M = some (r, M')) : Met l yX11_undo wsX11_undo ({ frames := 0, cells := 0, slots := 0, locals := 0 }) (PcX D false cA ad M [.ref (ad 0)]) (QiX false D false cA ad r M') 0 0 (AX false ad) := by
  refine Met.ofW (cc := cX11_undo) (maxL := 2) (ret := (some .int)) (by decide) rfl ?_
  intro p e s m args below meth c s₁ B hml hv
  obtain ⟨rfl, hP0, hK⟩ := hv
  have hx := B.exec
  have hb := B.bytes
  have hr0 := B.returns
  have hts := atoms_spec (ws := wsX11_undo) B.pre
  have hown : s.vm.findClass RX11 = some m.cls := findClass_of_methodNamed B.named
  have hlocks := B.notSynchronized
  have hW := xstart hP0
  have hi11 : ∀ w ∈ wsX110, w ∈ wsX11_undo := fun w h => List.mem_cons_of_mem _ (List.mem_append_right _ h)
  have hl := lv_entry ([.ref (ad 0)]) (n := 2) (Nat.le_of_ble_eq_true rfl)
  rw [lg_entry_eq]
  generalize (lg_sl ([.ref (ad 0)]) ++ List.replicate (2 - (lg_sl ([.ref (ad 0)])).length) Slot.unset).toArray = ls at hl ⊢
  have hl : lv_has ls 2 [(0, .ref (ad 0))] := hl
  clear hP0
  unfold f_X11_undo at hr
  refine lv_aload_n hx hb dX11_undo_0 rfl (lv_at hl 0 rfl) ?_
  refine g11_4 hx hb hts hi11 hown hK hW (k := 0) rfl (hts _ (wm 1 rfl)) dX11_undo_1 ?_
  refine lv_if_ne (tgt := 10) hx hb dX11_undo_4 (by decide) (fun c1 => ?_) (fun c1 => ?_)
  · have hr := br_n c1 hr
    refine lv_aload_n hx hb dX11_undo_10 rfl (lv_at hl 0 rfl) ?_
    refine lv_dup hx hb dX11_undo_11 rfl ?_
    refine g11_4 hx hb hts hi11 hown hK hW (k := 0) rfl (hts _ (wm 1 rfl)) dX11_undo_12 ?_
    refine lv_iconst (v := (1 : Int32)) hx hb dX11_undo_15 (by decide) ?_
    refine lv_isub hx hb dX11_undo_16 ?_
    obtain ⟨M_1, eM_1, hr⟩ := lt1_e hr
    refine p11_4 hx hb hts hi11 hown hK hW (k := 0) rfl (hts _ (wm 1 rfl)) dX11_undo_17 (fun H locs hW => ?_)
    rw [← eM_1] at hW
    refine lv_iconst (v := (0 : Int32)) hx hb dX11_undo_20 (by decide) ?_
    refine lv_istore_n (lv' := [(1, .int (0 : Int32)), (0, .ref (ad 0))]) hx hb dX11_undo_21 rfl hl (by decide) rfl (fun ls hl => ?_)
    have hL22_1 : ∀ (n : Nat) (x1_2 : Int32) (M_3 : Mm) (H : Heap) (locs : List Loc) (ls : Array Slot) (M_4 : Mm), Xw D false cA ad M_3 (AX false ad) s.heap H locs → lv_has ls 2 [(0, .ref (ad 0)), (1, .int x1_2)] → f_X11_undo_L22 n x1_2 M_3 = some M_4 → (∀ (H : Heap) (locs : List Loc) (ls : Array Slot), Xw D false cA ad M_4 (AX false ad) s.heap H locs → lv_has ls 2 [(0, .ref (ad 0))] → W p l e (headSpec wsX11_undo { frames := 0, cells := 0, slots := 0, locals := 0 }).room s m args below meth c H locs 0 0 (MQ below (QiX false D false cA ad r M') args s 0 0 (AX false ad)) (F0 m 56 ls [])) → W p l e (headSpec wsX11_undo { frames := 0, cells := 0, slots := 0, locals := 0 }).room s m args below meth c H locs 0 0 (MQ below (QiX false D false cA ad r M') args s 0 0 (AX false ad)) (F0 m 22 ls []) := by
      intro n
      induction n with
      | zero =>
        intro x1_2 M_3 H locs ls M_4 hW hl hr hk
        exact absurd hr (by simp [f_X11_undo_L22])
      | succ n ih =>
        intro x1_2 M_3 H locs ls M_4 hW hl hr hk
        rw [f_X11_undo_L22] at hr
        refine lv_iload_n hx hb dX11_undo_22 rfl (lv_at hl 1 rfl) ?_
        refine lv_sipush (v := (159 : Int32)) hx hb dX11_undo_23 (by decide) ?_
        refine lv_icmp_ge (tgt := 56) hx hb dX11_undo_26 (by decide) (fun c1 => ?_) (fun c1 => ?_)
        · have hr := br_p c1 hr
          have e1 := Option.some.inj hr
          subst e1
          exact hk _ _ _ hW (lv_sub hl [0] rfl)
        · have hr := br_n c1 hr
          refine lv_aload_n hx hb dX11_undo_29 rfl (lv_at hl 0 rfl) ?_
          refine g11_0 hx hb hts hi11 hown hK hW (k := 0) rfl (hts _ (wm 3 rfl)) dX11_undo_30 ?_
          refine lv_iload_n hx hb dX11_undo_33 rfl (lv_at hl 1 rfl) ?_
          refine lv_aload_n hx hb dX11_undo_34 rfl (lv_at hl 0 rfl) ?_
          refine g11_2 hx hb hts hi11 hown hK hW (k := 0) rfl (hts _ (wm 4 rfl)) dX11_undo_35 ?_
          refine lv_sipush (v := (159 : Int32)) hx hb dX11_undo_38 (by decide) ?_
          refine lv_aload_n hx hb dX11_undo_41 rfl (lv_at hl 0 rfl) ?_
          refine g11_4 hx hb hts hi11 hown hK hW (k := 0) rfl (hts _ (wm 1 rfl)) dX11_undo_42 ?_
          refine lv_imul hx hb dX11_undo_45 ?_
          refine lv_iload_n hx hb dX11_undo_46 rfl (lv_at hl 1 rfl) ?_
          refine lv_iadd hx hb dX11_undo_47 ?_
          obtain ⟨hn48, hr⟩ := chk_e hr
          refine xiald hx hb hK hW (k := 3) (t := 25) rfl (by decide) (by decide) rfl (n := 795) hn48 (jx := (ix (((159 : Int32) * (gI M_3 0 4)) + x1_2))) rfl dX11_undo_48 ?_
          obtain ⟨hn49, hr⟩ := chk_e hr
          obtain ⟨M_5, eM_5, hr⟩ := lt1_e hr
          refine xiast hx hb hK hW (k := 1) (t := 24) rfl (by decide) (by decide) rfl (n := 159) hn49 (jx := (ix x1_2)) rfl dX11_undo_49 (fun H locs hW => ?_)
          rw [← eM_5] at hW
          obtain ⟨x1_6, ex1_6, hr⟩ := lt1_e hr
          refine lv_iinc (v := x1_6) (lv' := [(1, .int x1_6), (0, .ref (ad 0))]) hx hb dX11_undo_50 hl (k := 1) rfl (by rw [ex1_6]; rfl) (by decide) rfl (fun ls hl => ?_)
          refine lv_goto (tgt := 22) hx hb dX11_undo_53 (by decide) ?_
          exact ih x1_6 M_5 _ _ _ hW (lv_sub hl [1, 0] rfl) _ hr hk
    obtain ⟨M_4, hr, hr3⟩ := ob1_e hr
    refine hL22_1 1000 (0 : Int32) M_1 _ _ _ M_4 hW (lv_sub hl [1, 0] rfl) hr (fun H locs ls hW hl => ?_)
    clear hr
    have hr := hr3
    refine lv_aload_n hx hb dX11_undo_56 rfl (lv_at hl 0 rfl) ?_
    refine g11_1 hx hb hts hi11 hown hK hW (k := 0) rfl (hts _ (wm 5 rfl)) dX11_undo_57 ?_
    refine lv_iconst (v := (0 : Int32)) hx hb dX11_undo_60 (by decide) ?_
    refine lv_aload_n hx hb dX11_undo_61 rfl (lv_at hl 0 rfl) ?_
    refine g11_3 hx hb hts hi11 hown hK hW (k := 0) rfl (hts _ (wm 6 rfl)) dX11_undo_62 ?_
    refine lv_iconst (v := (2 : Int32)) hx hb dX11_undo_65 (by decide) ?_
    refine lv_aload_n hx hb dX11_undo_66 rfl (lv_at hl 0 rfl) ?_
    refine g11_4 hx hb hts hi11 hown hK hW (k := 0) rfl (hts _ (wm 1 rfl)) dX11_undo_67 ?_
    refine lv_imul hx hb dX11_undo_70 ?_
    obtain ⟨hn71, hr⟩ := chk_e hr
    refine xlald hx hb hK hW (k := 4) (t := 41) rfl (by decide) (by decide) rfl (n := 10) hn71 (jx := (ix ((2 : Int32) * (gI M_4 0 4)))) rfl dX11_undo_71 ?_
    obtain ⟨M_7, eM_7, hr⟩ := lt1_e hr
    refine xlast hx hb hK hW (k := 2) (t := 40) rfl (by decide) (by decide) rfl (n := 2) (by decide) (jx := 0) (by decide) dX11_undo_72 (fun H locs hW => ?_)
    rw [← eM_7] at hW
    refine lv_aload_n hx hb dX11_undo_73 rfl (lv_at hl 0 rfl) ?_
    refine g11_1 hx hb hts hi11 hown hK hW (k := 0) rfl (hts _ (wm 5 rfl)) dX11_undo_74 ?_
    refine lv_iconst (v := (1 : Int32)) hx hb dX11_undo_77 (by decide) ?_
    refine lv_aload_n hx hb dX11_undo_78 rfl (lv_at hl 0 rfl) ?_
    refine g11_3 hx hb hts hi11 hown hK hW (k := 0) rfl (hts _ (wm 6 rfl)) dX11_undo_79 ?_
    refine lv_iconst (v := (2 : Int32)) hx hb dX11_undo_82 (by decide) ?_
    refine lv_aload_n hx hb dX11_undo_83 rfl (lv_at hl 0 rfl) ?_
    refine g11_4 hx hb hts hi11 hown hK hW (k := 0) rfl (hts _ (wm 1 rfl)) dX11_undo_84 ?_
    refine lv_imul hx hb dX11_undo_87 ?_
    refine lv_iconst (v := (1 : Int32)) hx hb dX11_undo_88 (by decide) ?_
    refine lv_iadd hx hb dX11_undo_89 ?_
    obtain ⟨hn90, hr⟩ := chk_e hr
    refine xlald hx hb hK hW (k := 4) (t := 41) rfl (by decide) (by decide) rfl (n := 10) hn90 (jx := (ix (((2 : Int32) * (gI M_7 0 4)) + (1 : Int32)))) rfl dX11_undo_90 ?_
    obtain ⟨M_8, eM_8, hr⟩ := lt1_e hr
    refine xlast hx hb hK hW (k := 2) (t := 40) rfl (by decide) (by decide) rfl (n := 2) (by decide) (jx := 1) (by decide) dX11_undo_91 (fun H locs hW => ?_)
    rw [← eM_8] at hW
    refine lv_aload_n hx hb dX11_undo_92 rfl (lv_at hl 0 rfl) ?_
    refine g11_4 hx hb hts hi11 hown hK hW (k := 0) rfl (hts _ (wm 1 rfl)) dX11_undo_93 ?_
    obtain ⟨e1, e2⟩ := Prod.mk.inj (Option.some.inj hr)
    rw [← e1, ← e2]
    exact xiret hx hb hr0 hlocks hW adR_rf dX11_undo_96
  · have hr := br_p c1 hr
    refine lv_ldc (v := (-2000000003 : Int32)) hx hb hown (hts _ (wm 2 rfl)) dX11_undo_7 ?_
    obtain ⟨e1, e2⟩ := Prod.mk.inj (Option.some.inj hr)
    rw [← e1, ← e2]
    exact xiret hx hb hr0 hlocks hW adR_rf dX11_undo_9

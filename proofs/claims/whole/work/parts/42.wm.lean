def f_X11_weightOf_L5 (M : Mm) (x1 : Int32) (x2 : Int32) : Nat → Int32 → Int32 → Option Int32
  | 0, _, _ => none
  | n + 1, x3_1, x4_2 =>
(if (gI M 1 64) ≤ x4_2 then (
some x3_1) else (
chk (inb x4_2 4) <|
ob1 ((if (gI M 11 (ix x4_2)) = (0 : Int32) then (
some (0 : Int32)) else (
(if x1 < (0 : Int32) then (
ob1 (f_X11_of x4_2 (2 : Int32) M) fun r_5 =>
some r_5) else (
chk (inb (((2 : Int32) * x4_2) + x1) 8) <|
(if (gI M 10 (ix (((2 : Int32) * x4_2) + x1))) = x2 then (
ob1 (f_X11_of x4_2 (2 : Int32) M) fun r_6 =>
some r_6) else (
some (0 : Int32)))))))) fun y_4 =>
lt1 ((x3_1 + y_4)) fun x3_7 =>
lt1 (x4_2 + (1 : Int32)) fun x4_8 =>
f_X11_weightOf_L5 M x1 x2 n x3_7 x4_8))

def f_X11_weightOf (x1 : Int32) (x2 : Int32) (M : Mm) : Option Int32 :=
ob1 (f_X11_weightOf_L5 M x1 x2 1000 (0 : Int32) (0 : Int32)) fun x3_3 =>
some x3_3

set_option maxHeartbeats 4000000 in
set_option maxRecDepth 100000 in
theorem c_X11_weightOf (l : Launch) (D : va_G) (cA : Nat → ClassId) (ad : Nat → Nat) (M : Mm) (x1 : Int32) (x2 : Int32) {r : Int32} (hr : f_X11_weightOf x1 x2 M = some r) : Met l yX11_weightOf wsX11_weightOf ({ frames := 1, cells := 0, slots := 0, locals := 22 }) (PcX D false cA ad M [.ref (ad 0), .int x1, .int x2]) (QiX false D false cA ad r M) 0 0 (AX false ad) := by
  refine Met.ofW (cc := cX11_weightOf) (maxL := 5) (ret := (some .int)) (by decide) rfl ?_
  intro p e s m args below meth c s₁ B hml hv
  obtain ⟨rfl, hP0, hK⟩ := hv
  have hx := B.exec
  have hb := B.bytes
  have hr0 := B.returns
  have hts := atoms_spec (ws := wsX11_weightOf) B.pre
  have hown : s.vm.findClass RX11 = some m.cls := findClass_of_methodNamed B.named
  have hlocks := B.notSynchronized
  have hW := xstart hP0
  have hi11 : ∀ w ∈ wsX110, w ∈ wsX11_weightOf := fun w h => List.mem_cons_of_mem _ (List.mem_append_right _ h)
  have hl := lv_entry ([.ref (ad 0), .int x1, .int x2]) (n := 5) (Nat.le_of_ble_eq_true rfl)
  rw [lg_entry_eq]
  generalize (lg_sl ([.ref (ad 0), .int x1, .int x2]) ++ List.replicate (5 - (lg_sl ([.ref (ad 0), .int x1, .int x2])).length) Slot.unset).toArray = ls at hl ⊢
  have hl : lv_has ls 5 [(0, .ref (ad 0)), (1, .int x1), (2, .int x2)] := hl
  clear hP0
  unfold f_X11_weightOf at hr
  refine lv_iconst (v := (0 : Int32)) hx hb dX11_weightOf_0 (by decide) ?_
  refine lv_istore_n (lv' := [(3, .int (0 : Int32)), (0, .ref (ad 0)), (1, .int x1), (2, .int x2)]) hx hb dX11_weightOf_1 rfl hl (by decide) rfl (fun ls hl => ?_)
  refine lv_iconst (v := (0 : Int32)) hx hb dX11_weightOf_2 (by decide) ?_
  refine lv_istore (lv' := [(4, .int (0 : Int32)), (3, .int (0 : Int32)), (0, .ref (ad 0)), (1, .int x1), (2, .int x2)]) hx hb dX11_weightOf_3 hl (by decide) rfl (fun ls hl => ?_)
  have hL5_1 : ∀ (n : Nat) (x3_1 : Int32) (x4_2 : Int32) (H : Heap) (locs : List Loc) (ls : Array Slot) (x3_3 : Int32), Xw D false cA ad M (AX false ad) s.heap H locs → lv_has ls 5 [(0, .ref (ad 0)), (1, .int x1), (2, .int x2), (3, .int x3_1), (4, .int x4_2)] → f_X11_weightOf_L5 M x1 x2 n x3_1 x4_2 = some x3_3 → (∀ (H : Heap) (locs : List Loc) (ls : Array Slot), Xw D false cA ad M (AX false ad) s.heap H locs → lv_has ls 5 [(3, .int x3_3)] → W p l e (headSpec wsX11_weightOf { frames := 1, cells := 0, slots := 0, locals := 22 }).room s m args below meth c H locs 0 0 (MQ below (QiX false D false cA ad r M) args s 0 0 (AX false ad)) (F0 m 66 ls [])) → W p l e (headSpec wsX11_weightOf { frames := 1, cells := 0, slots := 0, locals := 22 }).room s m args below meth c H locs 0 0 (MQ below (QiX false D false cA ad r M) args s 0 0 (AX false ad)) (F0 m 5 ls []) := by
    intro n
    induction n with
    | zero =>
      intro x3_1 x4_2 H locs ls x3_3 hW hl hr hk
      exact absurd hr (by simp [f_X11_weightOf_L5])
    | succ n ih =>
      intro x3_1 x4_2 H locs ls x3_3 hW hl hr hk
      rw [f_X11_weightOf_L5] at hr
      refine lv_iload hx hb dX11_weightOf_5 (lv_at hl 4 rfl) ?_
      refine lv_aload_n hx hb dX11_weightOf_7 rfl (lv_at hl 0 rfl) ?_
      refine g11_0 hx hb hts hi11 hown hK hW (k := 0) rfl (hts _ (wm 1 rfl)) dX11_weightOf_8 ?_
      refine lv_bipush (v := (64 : Int32)) hx hb dX11_weightOf_11 (by decide) ?_
      refine xiald hx hb hK hW (k := 1) (t := 24) rfl (by decide) (by decide) rfl (n := 159) (by decide) (jx := 64) (by decide) dX11_weightOf_13 ?_
      refine lv_icmp_ge (tgt := 66) hx hb dX11_weightOf_14 (by decide) (fun c1 => ?_) (fun c1 => ?_)
      · have hr := br_p c1 hr
        have e1 := Option.some.inj hr
        subst e1
        exact hk _ _ _ hW (lv_sub hl [3] rfl)
      · have hr := br_n c1 hr
        refine lv_iload_n hx hb dX11_weightOf_17 rfl (lv_at hl 3 rfl) ?_
        refine lv_aload_n hx hb dX11_weightOf_18 rfl (lv_at hl 0 rfl) ?_
        refine g11_12 hx hb hts hi11 hown hK hW (k := 0) rfl (hts _ (wm 2 rfl)) dX11_weightOf_19 ?_
        refine lv_iload hx hb dX11_weightOf_22 (lv_at hl 4 rfl) ?_
        obtain ⟨hn24, hr⟩ := chk_e hr
        refine xzald hx hb hK hW (k := 11) (t := 30) rfl (by decide) (by decide) rfl (n := 4) hn24 (jx := (ix x4_2)) rfl dX11_weightOf_24 ?_
        obtain ⟨y_4, hr, hr3⟩ := ob1_e hr
        have hj58_4 : ∀ (H : Heap) (locs : List Loc) (ls : Array Slot), Xw D false cA ad M (AX false ad) s.heap H locs → lv_has ls 5 [(0, .ref (ad 0)), (1, .int x1), (2, .int x2), (4, .int x4_2)] → W p l e (headSpec wsX11_weightOf { frames := 1, cells := 0, slots := 0, locals := 22 }).room s m args below meth c H locs 0 0 (MQ below (QiX false D false cA ad r M) args s 0 0 (AX false ad)) (F0 m 58 ls [.int y_4, .int x3_1]) := by
          intro H locs ls hW hl
          have hr := hr3
          refine lv_iadd hx hb dX11_weightOf_58 ?_
          obtain ⟨x3_7, ex3_7, hr⟩ := lt1_e hr
          rw [← ex3_7]
          refine lv_istore_n (lv' := [(3, .int x3_7), (0, .ref (ad 0)), (1, .int x1), (2, .int x2), (4, .int x4_2)]) hx hb dX11_weightOf_59 rfl hl (by decide) rfl (fun ls hl => ?_)
          obtain ⟨x4_8, ex4_8, hr⟩ := lt1_e hr
          refine lv_iinc (v := x4_8) (lv' := [(4, .int x4_8), (3, .int x3_7), (0, .ref (ad 0)), (1, .int x1), (2, .int x2)]) hx hb dX11_weightOf_60 hl (k := 4) rfl (by rw [ex4_8]; rfl) (by decide) rfl (fun ls hl => ?_)
          refine lv_goto (tgt := 5) hx hb dX11_weightOf_63 (by decide) ?_
          exact ih x3_7 x4_8 _ _ _ hW (lv_sub hl [2, 3, 4, 1, 0] rfl) _ hr hk
        clear hr3
        refine lv_if_eq (tgt := 57) hx hb dX11_weightOf_25 (by decide) (fun c1 => ?_) (fun c1 => ?_)
        · have hr := br_p c1 hr
          refine lv_iconst (v := (0 : Int32)) hx hb dX11_weightOf_57 (by decide) ?_
          have e1 := Option.some.inj hr
          subst e1
          exact hj58_4 _ _ _ hW (lv_sub hl [0, 1, 2, 4] rfl)
        · have hr := br_n c1 hr
          refine lv_iload_n hx hb dX11_weightOf_28 rfl (lv_at hl 1 rfl) ?_
          refine lv_if_lt (tgt := 47) hx hb dX11_weightOf_29 (by decide) (fun c1 => ?_) (fun c1 => ?_)
          · have hr := br_p c1 hr
            refine lv_aload_n hx hb dX11_weightOf_47 rfl (lv_at hl 0 rfl) ?_
            refine lv_iload hx hb dX11_weightOf_48 (lv_at hl 4 rfl) ?_
            refine lv_iconst (v := (2 : Int32)) hx hb dX11_weightOf_50 (by decide) ?_
            obtain ⟨r_5, hc51, hr⟩ := ob1_e hr
            refine xk_i (va_runV (As := [.int x4_2, .int (2 : Int32)]) (rest := [.int x3_1]) ⟨hx, hb, hml, hown, hts⟩ (c_X11_of l D cA ad M x4_2 (2 : Int32) hc51) (cwV 2 hts gX11_weightOf_X11_of rfl rfl rfl (by decide +kernel) ⟨Nat.le_of_ble_eq_true rfl, Nat.le_of_ble_eq_true rfl⟩) (xpreV hK hW (k := 0) rfl (by decide) rfl) rfl rfl hl.1 rfl (lv_room (Nat.le_of_ble_eq_true rfl)) dX11_weightOf_51 ⟨Nat.le_of_ble_eq_true rfl, Nat.le_of_ble_eq_true rfl⟩) hW (fun H locs hW => ?_)
            refine lv_goto (tgt := 58) hx hb dX11_weightOf_54 (by decide) ?_
            have e1 := Option.some.inj hr
            subst e1
            exact hj58_4 _ _ _ hW (lv_sub hl [0, 1, 2, 4] rfl)
          · have hr := br_n c1 hr
            refine lv_aload_n hx hb dX11_weightOf_32 rfl (lv_at hl 0 rfl) ?_
            refine g11_11 hx hb hts hi11 hown hK hW (k := 0) rfl (hts _ (wm 3 rfl)) dX11_weightOf_33 ?_
            refine lv_iconst (v := (2 : Int32)) hx hb dX11_weightOf_36 (by decide) ?_
            refine lv_iload hx hb dX11_weightOf_37 (lv_at hl 4 rfl) ?_
            refine lv_imul hx hb dX11_weightOf_39 ?_
            refine lv_iload_n hx hb dX11_weightOf_40 rfl (lv_at hl 1 rfl) ?_
            refine lv_iadd hx hb dX11_weightOf_41 ?_
            obtain ⟨hn42, hr⟩ := chk_e hr
            refine xiald hx hb hK hW (k := 10) (t := 27) rfl (by decide) (by decide) rfl (n := 8) hn42 (jx := (ix (((2 : Int32) * x4_2) + x1))) rfl dX11_weightOf_42 ?_
            refine lv_iload_n hx hb dX11_weightOf_43 rfl (lv_at hl 2 rfl) ?_
            refine lv_icmp_ne (tgt := 57) hx hb dX11_weightOf_44 (by decide) (fun c1 => ?_) (fun c1 => ?_)
            · have hr := br_n c1 hr
              refine lv_iconst (v := (0 : Int32)) hx hb dX11_weightOf_57 (by decide) ?_
              have e1 := Option.some.inj hr
              subst e1
              exact hj58_4 _ _ _ hW (lv_sub hl [0, 1, 2, 4] rfl)
            · have hr := br_p c1 hr
              refine lv_aload_n hx hb dX11_weightOf_47 rfl (lv_at hl 0 rfl) ?_
              refine lv_iload hx hb dX11_weightOf_48 (lv_at hl 4 rfl) ?_
              refine lv_iconst (v := (2 : Int32)) hx hb dX11_weightOf_50 (by decide) ?_
              obtain ⟨r_6, hc51, hr⟩ := ob1_e hr
              refine xk_i (va_runV (As := [.int x4_2, .int (2 : Int32)]) (rest := [.int x3_1]) ⟨hx, hb, hml, hown, hts⟩ (c_X11_of l D cA ad M x4_2 (2 : Int32) hc51) (cwV 2 hts gX11_weightOf_X11_of rfl rfl rfl (by decide +kernel) ⟨Nat.le_of_ble_eq_true rfl, Nat.le_of_ble_eq_true rfl⟩) (xpreV hK hW (k := 0) rfl (by decide) rfl) rfl rfl hl.1 rfl (lv_room (Nat.le_of_ble_eq_true rfl)) dX11_weightOf_51 ⟨Nat.le_of_ble_eq_true rfl, Nat.le_of_ble_eq_true rfl⟩) hW (fun H locs hW => ?_)
              refine lv_goto (tgt := 58) hx hb dX11_weightOf_54 (by decide) ?_
              have e1 := Option.some.inj hr
              subst e1
              exact hj58_4 _ _ _ hW (lv_sub hl [0, 1, 2, 4] rfl)
  obtain ⟨x3_3, hr, hr3⟩ := ob1_e hr
  refine hL5_1 1000 (0 : Int32) (0 : Int32) _ _ _ x3_3 hW (lv_sub hl [2, 3, 4, 1, 0] rfl) hr (fun H locs ls hW hl => ?_)
  clear hr
  have hr := hr3
  refine lv_iload_n hx hb dX11_weightOf_66 rfl (lv_at hl 0 rfl) ?_
  rw [← Option.some.inj hr]
  exact xiret hx hb hr0 hlocks hW adR_rf dX11_weightOf_67

def f_X11_vote_L84 (x3_2 : Int32) (M_4 : Mm) (x5_7 : Int32) : Nat → Int32 → Int32 → Option Int32
  | 0, _, _ => none
  | n + 1, x6_10, x7_11 =>
(if x3_2 ≤ x7_11 then (
some x6_10) else (
ob1 ((if x6_10 = (0 : Int32) then (
some (0 : Int32)) else (
chk (inb x7_11 4) <|
(if (gI M_4 14 (ix x7_11)) = x5_7 then (
some (0 : Int32)) else (
some (1 : Int32)))))) fun y_13 =>
lt1 (x7_11 + (1 : Int32)) fun x7_14 =>
f_X11_vote_L84 x3_2 M_4 x5_7 n y_13 x7_14))

def f_X11_vote_L12 (x1 : Int32) (r_1 : Int32) : Nat → Int32 → Int32 → Mm → Option (Int32 × Mm)
  | 0, _, _, _ => none
  | n + 1, x3_2, x4_3, M_4 =>
(if (gI M_4 1 64) ≤ x4_3 then (
some (x3_2, M_4)) else (
chk (inb (((2 : Int32) * x4_3) + x1) 8) <|
lt1 ((gI M_4 10 (ix (((2 : Int32) * x4_3) + x1)))) fun x5_7 =>
chk (inb x4_3 4) <|
ob1 ((if (gI M_4 11 (ix x4_3)) = (0 : Int32) then (
some (0 : Int32)) else (
(if x5_7 = (0 : Int32) then (
some (0 : Int32)) else (
ob1 (f_X11_weightOf x1 x5_7 M_4) fun r_9 =>
(if (r_9 * (100 : Int32)) < ((gI M_4 1 80) * r_1) then (
some (0 : Int32)) else (
some (1 : Int32)))))))) fun y_8 =>
ob1 (f_X11_vote_L84 x3_2 M_4 x5_7 1000 y_8 (0 : Int32)) fun x6_12 =>
ob2 ((if x6_12 = (0 : Int32) then (
some (x3_2, M_4)) else (
chk (inb x3_2 4) <|
lt1 (wI M_4 14 (ix x3_2) x5_7) fun M_17 =>
lt1 (x3_2 + (1 : Int32)) fun x3_18 =>
some (x3_18, M_17)))) fun x3_15 M_16 =>
lt1 (x4_3 + (1 : Int32)) fun x4_19 =>
f_X11_vote_L12 x1 r_1 n x3_15 x4_19 M_16))

def f_X11_vote_L170 (x1 : Int32) (x3_5 : Int32) (x4_21 : Int32) : Nat → Int32 → Mm → Option Mm
  | 0, _, _ => none
  | n + 1, x5_23, M_24 =>
(if x3_5 ≤ x5_23 then (
some M_24) else (
chk (inb (((2 : Int32) * x4_21) + x1) 8) <|
chk (inb x5_23 4) <|
ob1 ((if (gI M_24 10 (ix (((2 : Int32) * x4_21) + x1))) = (gI M_24 14 (ix x5_23)) then (
some (0 : Int32)) else (
chk (inb (((2 : Int32) * x4_21) + x1) 8) <|
some (gI M_24 10 (ix (((2 : Int32) * x4_21) + x1)))))) fun y_26 =>
chk (inb (((2 : Int32) * x4_21) + x1) 8) <|
lt1 (wI M_24 10 (ix (((2 : Int32) * x4_21) + x1)) y_26) fun M_27 =>
lt1 (x5_23 + (1 : Int32)) fun x5_28 =>
f_X11_vote_L170 x1 x3_5 x4_21 n x5_28 M_27))

def f_X11_vote_L155 (x1 : Int32) (x3_5 : Int32) : Nat → Int32 → Mm → Option Mm
  | 0, _, _ => none
  | n + 1, x4_21, M_22 =>
(if (gI M_22 1 64) ≤ x4_21 then (
some M_22) else (
ob1 (f_X11_vote_L170 x1 x3_5 x4_21 1000 (0 : Int32) M_22) fun M_25 =>
lt1 (x4_21 + (1 : Int32)) fun x4_29 =>
f_X11_vote_L155 x1 x3_5 n x4_29 M_25))

def f_X11_vote (x1 : Int32) (M : Mm) : Option Mm :=
ob1 (f_X11_weightOf (-1 : Int32) (0 : Int32) M) fun r_1 =>
ob2 (f_X11_vote_L12 x1 r_1 1000 (0 : Int32) (0 : Int32) M) fun x3_5 M_6 =>
lt1 (wI M_6 0 15 ((gI M_6 0 15) + x3_5)) fun M_20 =>
f_X11_vote_L155 x1 x3_5 1000 (0 : Int32) M_20

set_option maxHeartbeats 4000000 in
set_option maxRecDepth 100000 in
theorem c_X11_vote (l : Launch) (D : va_G) (cA : Nat → ClassId) (ad : Nat → Nat) (M : Mm) (x1 : Int32) {M' : Mm} (hr : f_X11_vote x1 M = some M') : Met l yX11_vote wsX11_vote ({ frames := 2, cells := 0, slots := 0, locals := 46 }) (PcX D false cA ad M [.ref (ad 0), .int x1]) (QvX false D false cA ad M') 0 0 (AX false ad) := by
  refine Met.ofW (cc := cX11_vote) (maxL := 8) (ret := none) (by decide) rfl ?_
  intro p e s m args below meth c s₁ B hml hv
  obtain ⟨rfl, hP0, hK⟩ := hv
  have hx := B.exec
  have hb := B.bytes
  have hr0 := B.returns
  have hts := atoms_spec (ws := wsX11_vote) B.pre
  have hown : s.vm.findClass RX11 = some m.cls := findClass_of_methodNamed B.named
  have hlocks := B.notSynchronized
  have hW := xstart hP0
  have hi11 : ∀ w ∈ wsX110, w ∈ wsX11_vote := fun w h => List.mem_cons_of_mem _ (List.mem_append_right _ h)
  have hl := lv_entry ([.ref (ad 0), .int x1]) (n := 8) (Nat.le_of_ble_eq_true rfl)
  rw [lg_entry_eq]
  generalize (lg_sl ([.ref (ad 0), .int x1]) ++ List.replicate (8 - (lg_sl ([.ref (ad 0), .int x1])).length) Slot.unset).toArray = ls at hl ⊢
  have hl : lv_has ls 8 [(0, .ref (ad 0)), (1, .int x1)] := hl
  clear hP0
  unfold f_X11_vote at hr
  refine lv_aload_n hx hb dX11_vote_0 rfl (lv_at hl 0 rfl) ?_
  refine lv_iconst (v := (-1 : Int32)) hx hb dX11_vote_1 (by decide) ?_
  refine lv_iconst (v := (0 : Int32)) hx hb dX11_vote_2 (by decide) ?_
  obtain ⟨r_1, hc3, hr⟩ := ob1_e hr
  refine xk_i (va_runV (As := [.int (-1 : Int32), .int (0 : Int32)]) (rest := []) ⟨hx, hb, hml, hown, hts⟩ (c_X11_weightOf l D cA ad M (-1 : Int32) (0 : Int32) hc3) (cwV 2 hts gX11_vote_X11_weightOf rfl rfl rfl (by decide +kernel) ⟨Nat.le_of_ble_eq_true rfl, Nat.le_of_ble_eq_true rfl⟩) (xpreV hK hW (k := 0) rfl (by decide) rfl) rfl rfl hl.1 rfl (lv_room (Nat.le_of_ble_eq_true rfl)) dX11_vote_3 ⟨Nat.le_of_ble_eq_true rfl, Nat.le_of_ble_eq_true rfl⟩) hW (fun H locs hW => ?_)
  refine lv_istore_n (lv' := [(2, .int r_1), (0, .ref (ad 0)), (1, .int x1)]) hx hb dX11_vote_6 rfl hl (by decide) rfl (fun ls hl => ?_)
  refine lv_iconst (v := (0 : Int32)) hx hb dX11_vote_7 (by decide) ?_
  refine lv_istore_n (lv' := [(3, .int (0 : Int32)), (2, .int r_1), (0, .ref (ad 0)), (1, .int x1)]) hx hb dX11_vote_8 rfl hl (by decide) rfl (fun ls hl => ?_)
  refine lv_iconst (v := (0 : Int32)) hx hb dX11_vote_9 (by decide) ?_
  refine lv_istore (lv' := [(4, .int (0 : Int32)), (3, .int (0 : Int32)), (2, .int r_1), (0, .ref (ad 0)), (1, .int x1)]) hx hb dX11_vote_10 hl (by decide) rfl (fun ls hl => ?_)
  have hL12_1 : ∀ (n : Nat) (x3_2 : Int32) (x4_3 : Int32) (M_4 : Mm) (H : Heap) (locs : List Loc) (ls : Array Slot) (x3_5 : Int32) (M_6 : Mm), Xw D false cA ad M_4 (AX false ad) s.heap H locs → lv_has ls 8 [(2, .int r_1), (0, .ref (ad 0)), (1, .int x1), (3, .int x3_2), (4, .int x4_3)] → f_X11_vote_L12 x1 r_1 n x3_2 x4_3 M_4 = some (x3_5, M_6) → (∀ (H : Heap) (locs : List Loc) (ls : Array Slot), Xw D false cA ad M_6 (AX false ad) s.heap H locs → lv_has ls 8 [(0, .ref (ad 0)), (1, .int x1), (3, .int x3_5)] → W p l e (headSpec wsX11_vote { frames := 2, cells := 0, slots := 0, locals := 46 }).room s m args below meth c H locs 0 0 (MQ below (QvX false D false cA ad M') args s 0 0 (AX false ad)) (F0 m 142 ls [])) → W p l e (headSpec wsX11_vote { frames := 2, cells := 0, slots := 0, locals := 46 }).room s m args below meth c H locs 0 0 (MQ below (QvX false D false cA ad M') args s 0 0 (AX false ad)) (F0 m 12 ls []) := by
    intro n
    induction n with
    | zero =>
      intro x3_2 x4_3 M_4 H locs ls x3_5 M_6 hW hl hr hk
      exact absurd hr (by simp [f_X11_vote_L12])
    | succ n ih =>
      intro x3_2 x4_3 M_4 H locs ls x3_5 M_6 hW hl hr hk
      rw [f_X11_vote_L12] at hr
      refine lv_iload hx hb dX11_vote_12 (lv_at hl 4 rfl) ?_
      refine lv_aload_n hx hb dX11_vote_14 rfl (lv_at hl 1 rfl) ?_
      refine g11_0 hx hb hts hi11 hown hK hW (k := 0) rfl (hts _ (wm 1 rfl)) dX11_vote_15 ?_
      refine lv_bipush (v := (64 : Int32)) hx hb dX11_vote_18 (by decide) ?_
      refine xiald hx hb hK hW (k := 1) (t := 24) rfl (by decide) (by decide) rfl (n := 159) (by decide) (jx := 64) (by decide) dX11_vote_20 ?_
      refine lv_icmp_ge (tgt := 142) hx hb dX11_vote_21 (by decide) (fun c1 => ?_) (fun c1 => ?_)
      · have hr := br_p c1 hr
        obtain ⟨e1, e2⟩ := Prod.mk.inj (Option.some.inj hr)
        subst e1
        subst e2
        exact hk _ _ _ hW (lv_sub hl [1, 2, 3] rfl)
      · have hr := br_n c1 hr
        refine lv_aload_n hx hb dX11_vote_24 rfl (lv_at hl 1 rfl) ?_
        refine g11_11 hx hb hts hi11 hown hK hW (k := 0) rfl (hts _ (wm 2 rfl)) dX11_vote_25 ?_
        refine lv_iconst (v := (2 : Int32)) hx hb dX11_vote_28 (by decide) ?_
        refine lv_iload hx hb dX11_vote_29 (lv_at hl 4 rfl) ?_
        refine lv_imul hx hb dX11_vote_31 ?_
        refine lv_iload_n hx hb dX11_vote_32 rfl (lv_at hl 2 rfl) ?_
        refine lv_iadd hx hb dX11_vote_33 ?_
        obtain ⟨hn34, hr⟩ := chk_e hr
        refine xiald hx hb hK hW (k := 10) (t := 27) rfl (by decide) (by decide) rfl (n := 8) hn34 (jx := (ix (((2 : Int32) * x4_3) + x1))) rfl dX11_vote_34 ?_
        obtain ⟨x5_7, ex5_7, hr⟩ := lt1_e hr
        rw [← ex5_7]
        refine lv_istore (lv' := [(5, .int x5_7), (2, .int r_1), (0, .ref (ad 0)), (1, .int x1), (3, .int x3_2), (4, .int x4_3)]) hx hb dX11_vote_35 hl (by decide) rfl (fun ls hl => ?_)
        refine lv_aload_n hx hb dX11_vote_37 rfl (lv_at hl 2 rfl) ?_
        refine g11_12 hx hb hts hi11 hown hK hW (k := 0) rfl (hts _ (wm 3 rfl)) dX11_vote_38 ?_
        refine lv_iload hx hb dX11_vote_41 (lv_at hl 5 rfl) ?_
        obtain ⟨hn43, hr⟩ := chk_e hr
        refine xzald hx hb hK hW (k := 11) (t := 30) rfl (by decide) (by decide) rfl (n := 4) hn43 (jx := (ix x4_3)) rfl dX11_vote_43 ?_
        obtain ⟨y_8, hr, hr3⟩ := ob1_e hr
        have hj79_8 : ∀ (H : Heap) (locs : List Loc) (ls : Array Slot), Xw D false cA ad M_4 (AX false ad) s.heap H locs → lv_has ls 8 [(5, .int x5_7), (2, .int r_1), (0, .ref (ad 0)), (1, .int x1), (3, .int x3_2), (4, .int x4_3)] → W p l e (headSpec wsX11_vote { frames := 2, cells := 0, slots := 0, locals := 46 }).room s m args below meth c H locs 0 0 (MQ below (QvX false D false cA ad M') args s 0 0 (AX false ad)) (F0 m 79 ls [.int y_8]) := by
          intro H locs ls hW hl
          have hr := hr3
          refine lv_istore (lv' := [(6, .int y_8), (5, .int x5_7), (2, .int r_1), (0, .ref (ad 0)), (1, .int x1), (3, .int x3_2), (4, .int x4_3)]) hx hb dX11_vote_79 hl (by decide) rfl (fun ls hl => ?_)
          refine lv_iconst (v := (0 : Int32)) hx hb dX11_vote_81 (by decide) ?_
          refine lv_istore (lv' := [(7, .int (0 : Int32)), (6, .int y_8), (5, .int x5_7), (2, .int r_1), (0, .ref (ad 0)), (1, .int x1), (3, .int x3_2), (4, .int x4_3)]) hx hb dX11_vote_82 hl (by decide) rfl (fun ls hl => ?_)
          have hL84_2 : ∀ (n : Nat) (x6_10 : Int32) (x7_11 : Int32) (H : Heap) (locs : List Loc) (ls : Array Slot) (x6_12 : Int32), Xw D false cA ad M_4 (AX false ad) s.heap H locs → lv_has ls 8 [(5, .int x5_7), (2, .int r_1), (0, .ref (ad 0)), (1, .int x1), (3, .int x3_2), (4, .int x4_3), (6, .int x6_10), (7, .int x7_11)] → f_X11_vote_L84 x3_2 M_4 x5_7 n x6_10 x7_11 = some x6_12 → (∀ (H : Heap) (locs : List Loc) (ls : Array Slot), Xw D false cA ad M_4 (AX false ad) s.heap H locs → lv_has ls 8 [(5, .int x5_7), (2, .int r_1), (0, .ref (ad 0)), (1, .int x1), (3, .int x3_2), (4, .int x4_3), (6, .int x6_12)] → W p l e (headSpec wsX11_vote { frames := 2, cells := 0, slots := 0, locals := 46 }).room s m args below meth c H locs 0 0 (MQ below (QvX false D false cA ad M') args s 0 0 (AX false ad)) (F0 m 120 ls [])) → W p l e (headSpec wsX11_vote { frames := 2, cells := 0, slots := 0, locals := 46 }).room s m args below meth c H locs 0 0 (MQ below (QvX false D false cA ad M') args s 0 0 (AX false ad)) (F0 m 84 ls []) := by
            intro n
            induction n with
            | zero =>
              intro x6_10 x7_11 H locs ls x6_12 hW hl hr hk
              exact absurd hr (by simp [f_X11_vote_L84])
            | succ n ih =>
              intro x6_10 x7_11 H locs ls x6_12 hW hl hr hk
              rw [f_X11_vote_L84] at hr
              refine lv_iload hx hb dX11_vote_84 (lv_at hl 7 rfl) ?_
              refine lv_iload_n hx hb dX11_vote_86 rfl (lv_at hl 4 rfl) ?_
              refine lv_icmp_ge (tgt := 120) hx hb dX11_vote_87 (by decide) (fun c1 => ?_) (fun c1 => ?_)
              · have hr := br_p c1 hr
                have e1 := Option.some.inj hr
                subst e1
                exact hk _ _ _ hW (lv_sub hl [0, 1, 2, 3, 4, 5, 6] rfl)
              · have hr := br_n c1 hr
                refine lv_iload hx hb dX11_vote_90 (lv_at hl 6 rfl) ?_
                obtain ⟨y_13, hr, hr3⟩ := ob1_e hr
                have hj112_13 : ∀ (H : Heap) (locs : List Loc) (ls : Array Slot), Xw D false cA ad M_4 (AX false ad) s.heap H locs → lv_has ls 8 [(5, .int x5_7), (2, .int r_1), (0, .ref (ad 0)), (1, .int x1), (3, .int x3_2), (4, .int x4_3), (7, .int x7_11)] → W p l e (headSpec wsX11_vote { frames := 2, cells := 0, slots := 0, locals := 46 }).room s m args below meth c H locs 0 0 (MQ below (QvX false D false cA ad M') args s 0 0 (AX false ad)) (F0 m 112 ls [.int y_13]) := by
                  intro H locs ls hW hl
                  have hr := hr3
                  refine lv_istore (lv' := [(6, .int y_13), (5, .int x5_7), (2, .int r_1), (0, .ref (ad 0)), (1, .int x1), (3, .int x3_2), (4, .int x4_3), (7, .int x7_11)]) hx hb dX11_vote_112 hl (by decide) rfl (fun ls hl => ?_)
                  obtain ⟨x7_14, ex7_14, hr⟩ := lt1_e hr
                  refine lv_iinc (v := x7_14) (lv' := [(7, .int x7_14), (6, .int y_13), (5, .int x5_7), (2, .int r_1), (0, .ref (ad 0)), (1, .int x1), (3, .int x3_2), (4, .int x4_3)]) hx hb dX11_vote_114 hl (k := 7) rfl (by rw [ex7_14]; rfl) (by decide) rfl (fun ls hl => ?_)
                  refine lv_goto (tgt := 84) hx hb dX11_vote_117 (by decide) ?_
                  exact ih y_13 x7_14 _ _ _ hW (lv_sub hl [2, 3, 4, 5, 6, 7, 1, 0] rfl) _ hr hk
                clear hr3
                refine lv_if_eq (tgt := 111) hx hb dX11_vote_92 (by decide) (fun c1 => ?_) (fun c1 => ?_)
                · have hr := br_p c1 hr
                  refine lv_iconst (v := (0 : Int32)) hx hb dX11_vote_111 (by decide) ?_
                  have e1 := Option.some.inj hr
                  subst e1
                  exact hj112_13 _ _ _ hW (lv_sub hl [0, 1, 2, 3, 4, 5, 7] rfl)
                · have hr := br_n c1 hr
                  refine lv_aload_n hx hb dX11_vote_95 rfl (lv_at hl 2 rfl) ?_
                  refine g11_20 hx hb hts hi11 hown hK hW (k := 0) rfl (hts _ (wm 4 rfl)) dX11_vote_96 ?_
                  refine lv_iload hx hb dX11_vote_99 (lv_at hl 7 rfl) ?_
                  obtain ⟨hn101, hr⟩ := chk_e hr
                  refine xiald hx hb hK hW (k := 14) (t := 20) rfl (by decide) (by decide) rfl (n := 4) hn101 (jx := (ix x7_11)) rfl dX11_vote_101 ?_
                  refine lv_iload hx hb dX11_vote_102 (lv_at hl 0 rfl) ?_
                  refine lv_icmp_eq (tgt := 111) hx hb dX11_vote_104 (by decide) (fun c1 => ?_) (fun c1 => ?_)
                  · have hr := br_p c1 hr
                    refine lv_iconst (v := (0 : Int32)) hx hb dX11_vote_111 (by decide) ?_
                    have e1 := Option.some.inj hr
                    subst e1
                    exact hj112_13 _ _ _ hW (lv_sub hl [0, 1, 2, 3, 4, 5, 7] rfl)
                  · have hr := br_n c1 hr
                    refine lv_iconst (v := (1 : Int32)) hx hb dX11_vote_107 (by decide) ?_
                    refine lv_goto (tgt := 112) hx hb dX11_vote_108 (by decide) ?_
                    have e1 := Option.some.inj hr
                    subst e1
                    exact hj112_13 _ _ _ hW (lv_sub hl [0, 1, 2, 3, 4, 5, 7] rfl)
          obtain ⟨x6_12, hr, hr3⟩ := ob1_e hr
          refine hL84_2 1000 y_8 (0 : Int32) _ _ _ x6_12 hW (lv_sub hl [2, 3, 4, 5, 6, 7, 1, 0] rfl) hr (fun H locs ls hW hl => ?_)
          clear hr
          have hr := hr3
          refine lv_iload hx hb dX11_vote_120 (lv_at hl 6 rfl) ?_
          obtain ⟨x3_15, M_16, hr, hr3⟩ := ob2_e hr
          have hj136_16 : ∀ (H : Heap) (locs : List Loc) (ls : Array Slot), Xw D false cA ad M_16 (AX false ad) s.heap H locs → lv_has ls 8 [(2, .int r_1), (0, .ref (ad 0)), (1, .int x1), (4, .int x4_3), (3, .int x3_15)] → W p l e (headSpec wsX11_vote { frames := 2, cells := 0, slots := 0, locals := 46 }).room s m args below meth c H locs 0 0 (MQ below (QvX false D false cA ad M') args s 0 0 (AX false ad)) (F0 m 136 ls []) := by
            intro H locs ls hW hl
            have hr := hr3
            obtain ⟨x4_19, ex4_19, hr⟩ := lt1_e hr
            refine lv_iinc (v := x4_19) (lv' := [(4, .int x4_19), (2, .int r_1), (0, .ref (ad 0)), (1, .int x1), (3, .int x3_15)]) hx hb dX11_vote_136 hl (k := 3) rfl (by rw [ex4_19]; rfl) (by decide) rfl (fun ls hl => ?_)
            refine lv_goto (tgt := 12) hx hb dX11_vote_139 (by decide) ?_
            exact ih x3_15 x4_19 M_16 _ _ _ hW (lv_sub hl [1, 2, 3, 4, 0] rfl) _ _ hr hk
          clear hr3
          refine lv_if_eq (tgt := 136) hx hb dX11_vote_122 (by decide) (fun c1 => ?_) (fun c1 => ?_)
          · have hr := br_p c1 hr
            obtain ⟨e1, e2⟩ := Prod.mk.inj (Option.some.inj hr)
            subst e1
            subst e2
            exact hj136_16 _ _ _ hW (lv_sub hl [1, 2, 3, 5, 4] rfl)
          · have hr := br_n c1 hr
            refine lv_aload_n hx hb dX11_vote_125 rfl (lv_at hl 2 rfl) ?_
            refine g11_20 hx hb hts hi11 hown hK hW (k := 0) rfl (hts _ (wm 4 rfl)) dX11_vote_126 ?_
            refine lv_iload_n hx hb dX11_vote_129 rfl (lv_at hl 4 rfl) ?_
            refine lv_iload hx hb dX11_vote_130 (lv_at hl 0 rfl) ?_
            obtain ⟨hn132, hr⟩ := chk_e hr
            obtain ⟨M_17, eM_17, hr⟩ := lt1_e hr
            refine xiast hx hb hK hW (k := 14) (t := 20) rfl (by decide) (by decide) rfl (n := 4) hn132 (jx := (ix x3_2)) rfl dX11_vote_132 (fun H locs hW => ?_)
            rw [← eM_17] at hW
            obtain ⟨x3_18, ex3_18, hr⟩ := lt1_e hr
            refine lv_iinc (v := x3_18) (lv' := [(3, .int x3_18), (5, .int x5_7), (2, .int r_1), (0, .ref (ad 0)), (1, .int x1), (4, .int x4_3), (6, .int x6_12)]) hx hb dX11_vote_133 hl (k := 4) rfl (by rw [ex3_18]; rfl) (by decide) rfl (fun ls hl => ?_)
            obtain ⟨e1, e2⟩ := Prod.mk.inj (Option.some.inj hr)
            subst e1
            subst e2
            exact hj136_16 _ _ _ hW (lv_sub hl [2, 3, 4, 5, 0] rfl)
        clear hr3
        refine lv_if_eq (tgt := 78) hx hb dX11_vote_44 (by decide) (fun c1 => ?_) (fun c1 => ?_)
        · have hr := br_p c1 hr
          refine lv_iconst (v := (0 : Int32)) hx hb dX11_vote_78 (by decide) ?_
          have e1 := Option.some.inj hr
          subst e1
          exact hj79_8 _ _ _ hW (lv_sub hl [0, 1, 2, 3, 4, 5] rfl)
        · have hr := br_n c1 hr
          refine lv_iload hx hb dX11_vote_47 (lv_at hl 0 rfl) ?_
          refine lv_if_eq (tgt := 78) hx hb dX11_vote_49 (by decide) (fun c1 => ?_) (fun c1 => ?_)
          · have hr := br_p c1 hr
            refine lv_iconst (v := (0 : Int32)) hx hb dX11_vote_78 (by decide) ?_
            have e1 := Option.some.inj hr
            subst e1
            exact hj79_8 _ _ _ hW (lv_sub hl [0, 1, 2, 3, 4, 5] rfl)
          · have hr := br_n c1 hr
            refine lv_aload_n hx hb dX11_vote_52 rfl (lv_at hl 2 rfl) ?_
            refine lv_iload_n hx hb dX11_vote_53 rfl (lv_at hl 3 rfl) ?_
            refine lv_iload hx hb dX11_vote_54 (lv_at hl 0 rfl) ?_
            obtain ⟨r_9, hc56, hr⟩ := ob1_e hr
            refine xk_i (va_runV (As := [.int x1, .int x5_7]) (rest := []) ⟨hx, hb, hml, hown, hts⟩ (c_X11_weightOf l D cA ad M_4 x1 x5_7 hc56) (cwV 2 hts gX11_vote_X11_weightOf rfl rfl rfl (by decide +kernel) ⟨Nat.le_of_ble_eq_true rfl, Nat.le_of_ble_eq_true rfl⟩) (xpreV hK hW (k := 0) rfl (by decide) rfl) rfl rfl hl.1 rfl (lv_room (Nat.le_of_ble_eq_true rfl)) dX11_vote_56 ⟨Nat.le_of_ble_eq_true rfl, Nat.le_of_ble_eq_true rfl⟩) hW (fun H locs hW => ?_)
            refine lv_bipush (v := (100 : Int32)) hx hb dX11_vote_59 (by decide) ?_
            refine lv_imul hx hb dX11_vote_61 ?_
            refine lv_aload_n hx hb dX11_vote_62 rfl (lv_at hl 2 rfl) ?_
            refine g11_0 hx hb hts hi11 hown hK hW (k := 0) rfl (hts _ (wm 1 rfl)) dX11_vote_63 ?_
            refine lv_bipush (v := (80 : Int32)) hx hb dX11_vote_66 (by decide) ?_
            refine xiald hx hb hK hW (k := 1) (t := 24) rfl (by decide) (by decide) rfl (n := 159) (by decide) (jx := 80) (by decide) dX11_vote_68 ?_
            refine lv_iload_n hx hb dX11_vote_69 rfl (lv_at hl 1 rfl) ?_
            refine lv_imul hx hb dX11_vote_70 ?_
            refine lv_icmp_lt (tgt := 78) hx hb dX11_vote_71 (by decide) (fun c1 => ?_) (fun c1 => ?_)
            · have hr := br_p c1 hr
              refine lv_iconst (v := (0 : Int32)) hx hb dX11_vote_78 (by decide) ?_
              have e1 := Option.some.inj hr
              subst e1
              exact hj79_8 _ _ _ hW (lv_sub hl [0, 1, 2, 3, 4, 5] rfl)
            · have hr := br_n c1 hr
              refine lv_iconst (v := (1 : Int32)) hx hb dX11_vote_74 (by decide) ?_
              refine lv_goto (tgt := 79) hx hb dX11_vote_75 (by decide) ?_
              have e1 := Option.some.inj hr
              subst e1
              exact hj79_8 _ _ _ hW (lv_sub hl [0, 1, 2, 3, 4, 5] rfl)
  obtain ⟨x3_5, M_6, hr, hr3⟩ := ob2_e hr
  refine hL12_1 1000 (0 : Int32) (0 : Int32) M _ _ _ x3_5 M_6 hW (lv_sub hl [2, 3, 4, 1, 0] rfl) hr (fun H locs ls hW hl => ?_)
  clear hr
  have hr := hr3
  refine lv_aload_n hx hb dX11_vote_142 rfl (lv_at hl 0 rfl) ?_
  refine lv_dup hx hb dX11_vote_143 rfl ?_
  refine g11_15 hx hb hts hi11 hown hK hW (k := 0) rfl (hts _ (wm 5 rfl)) dX11_vote_144 ?_
  refine lv_iload_n hx hb dX11_vote_147 rfl (lv_at hl 2 rfl) ?_
  refine lv_iadd hx hb dX11_vote_148 ?_
  obtain ⟨M_20, eM_20, hr⟩ := lt1_e hr
  refine p11_15 hx hb hts hi11 hown hK hW (k := 0) rfl (hts _ (wm 5 rfl)) dX11_vote_149 (fun H locs hW => ?_)
  rw [← eM_20] at hW
  refine lv_iconst (v := (0 : Int32)) hx hb dX11_vote_152 (by decide) ?_
  refine lv_istore (lv' := [(4, .int (0 : Int32)), (0, .ref (ad 0)), (1, .int x1), (3, .int x3_5)]) hx hb dX11_vote_153 hl (by decide) rfl (fun ls hl => ?_)
  have hL155_3 : ∀ (n : Nat) (x4_21 : Int32) (M_22 : Mm) (H : Heap) (locs : List Loc) (ls : Array Slot), Xw D false cA ad M_22 (AX false ad) s.heap H locs → lv_has ls 8 [(0, .ref (ad 0)), (1, .int x1), (3, .int x3_5), (4, .int x4_21)] → f_X11_vote_L155 x1 x3_5 n x4_21 M_22 = some M' → W p l e (headSpec wsX11_vote { frames := 2, cells := 0, slots := 0, locals := 46 }).room s m args below meth c H locs 0 0 (MQ below (QvX false D false cA ad M') args s 0 0 (AX false ad)) (F0 m 155 ls []) := by
    intro n
    induction n with
    | zero =>
      intro x4_21 M_22 H locs ls hW hl hr
      exact absurd hr (by simp [f_X11_vote_L155])
    | succ n ih =>
      intro x4_21 M_22 H locs ls hW hl hr
      rw [f_X11_vote_L155] at hr
      refine lv_iload hx hb dX11_vote_155 (lv_at hl 3 rfl) ?_
      refine lv_aload_n hx hb dX11_vote_157 rfl (lv_at hl 0 rfl) ?_
      refine g11_0 hx hb hts hi11 hown hK hW (k := 0) rfl (hts _ (wm 1 rfl)) dX11_vote_158 ?_
      refine lv_bipush (v := (64 : Int32)) hx hb dX11_vote_161 (by decide) ?_
      refine xiald hx hb hK hW (k := 1) (t := 24) rfl (by decide) (by decide) rfl (n := 159) (by decide) (jx := 64) (by decide) dX11_vote_163 ?_
      refine lv_icmp_ge (tgt := 235) hx hb dX11_vote_164 (by decide) (fun c1 => ?_) (fun c1 => ?_)
      · have hr := br_p c1 hr
        rw [← Option.some.inj hr]
        exact xvret hx hb hr0 hlocks hW adR_rf dX11_vote_235
      · have hr := br_n c1 hr
        refine lv_iconst (v := (0 : Int32)) hx hb dX11_vote_167 (by decide) ?_
        refine lv_istore (lv' := [(5, .int (0 : Int32)), (0, .ref (ad 0)), (1, .int x1), (3, .int x3_5), (4, .int x4_21)]) hx hb dX11_vote_168 hl (by decide) rfl (fun ls hl => ?_)
        have hL170_4 : ∀ (n : Nat) (x5_23 : Int32) (M_24 : Mm) (H : Heap) (locs : List Loc) (ls : Array Slot) (M_25 : Mm), Xw D false cA ad M_24 (AX false ad) s.heap H locs → lv_has ls 8 [(0, .ref (ad 0)), (1, .int x1), (3, .int x3_5), (4, .int x4_21), (5, .int x5_23)] → f_X11_vote_L170 x1 x3_5 x4_21 n x5_23 M_24 = some M_25 → (∀ (H : Heap) (locs : List Loc) (ls : Array Slot), Xw D false cA ad M_25 (AX false ad) s.heap H locs → lv_has ls 8 [(0, .ref (ad 0)), (1, .int x1), (3, .int x3_5), (4, .int x4_21)] → W p l e (headSpec wsX11_vote { frames := 2, cells := 0, slots := 0, locals := 46 }).room s m args below meth c H locs 0 0 (MQ below (QvX false D false cA ad M') args s 0 0 (AX false ad)) (F0 m 229 ls [])) → W p l e (headSpec wsX11_vote { frames := 2, cells := 0, slots := 0, locals := 46 }).room s m args below meth c H locs 0 0 (MQ below (QvX false D false cA ad M') args s 0 0 (AX false ad)) (F0 m 170 ls []) := by
          intro n
          induction n with
          | zero =>
            intro x5_23 M_24 H locs ls M_25 hW hl hr hk
            exact absurd hr (by simp [f_X11_vote_L170])
          | succ n ih =>
            intro x5_23 M_24 H locs ls M_25 hW hl hr hk
            rw [f_X11_vote_L170] at hr
            refine lv_iload hx hb dX11_vote_170 (lv_at hl 4 rfl) ?_
            refine lv_iload_n hx hb dX11_vote_172 rfl (lv_at hl 2 rfl) ?_
            refine lv_icmp_ge (tgt := 229) hx hb dX11_vote_173 (by decide) (fun c1 => ?_) (fun c1 => ?_)
            · have hr := br_p c1 hr
              have e1 := Option.some.inj hr
              subst e1
              exact hk _ _ _ hW (lv_sub hl [0, 1, 2, 3] rfl)
            · have hr := br_n c1 hr
              refine lv_aload_n hx hb dX11_vote_176 rfl (lv_at hl 0 rfl) ?_
              refine g11_11 hx hb hts hi11 hown hK hW (k := 0) rfl (hts _ (wm 2 rfl)) dX11_vote_177 ?_
              refine lv_iconst (v := (2 : Int32)) hx hb dX11_vote_180 (by decide) ?_
              refine lv_iload hx hb dX11_vote_181 (lv_at hl 3 rfl) ?_
              refine lv_imul hx hb dX11_vote_183 ?_
              refine lv_iload_n hx hb dX11_vote_184 rfl (lv_at hl 1 rfl) ?_
              refine lv_iadd hx hb dX11_vote_185 ?_
              refine lv_aload_n hx hb dX11_vote_186 rfl (lv_at hl 0 rfl) ?_
              refine g11_11 hx hb hts hi11 hown hK hW (k := 0) rfl (hts _ (wm 2 rfl)) dX11_vote_187 ?_
              refine lv_iconst (v := (2 : Int32)) hx hb dX11_vote_190 (by decide) ?_
              refine lv_iload hx hb dX11_vote_191 (lv_at hl 3 rfl) ?_
              refine lv_imul hx hb dX11_vote_193 ?_
              refine lv_iload_n hx hb dX11_vote_194 rfl (lv_at hl 1 rfl) ?_
              refine lv_iadd hx hb dX11_vote_195 ?_
              obtain ⟨hn196, hr⟩ := chk_e hr
              refine xiald hx hb hK hW (k := 10) (t := 27) rfl (by decide) (by decide) rfl (n := 8) hn196 (jx := (ix (((2 : Int32) * x4_21) + x1))) rfl dX11_vote_196 ?_
              refine lv_aload_n hx hb dX11_vote_197 rfl (lv_at hl 0 rfl) ?_
              refine g11_20 hx hb hts hi11 hown hK hW (k := 0) rfl (hts _ (wm 4 rfl)) dX11_vote_198 ?_
              refine lv_iload hx hb dX11_vote_201 (lv_at hl 4 rfl) ?_
              obtain ⟨hn203, hr⟩ := chk_e hr
              refine xiald hx hb hK hW (k := 14) (t := 20) rfl (by decide) (by decide) rfl (n := 4) hn203 (jx := (ix x5_23)) rfl dX11_vote_203 ?_
              obtain ⟨y_26, hr, hr3⟩ := ob1_e hr
              have hj222_26 : ∀ (H : Heap) (locs : List Loc) (ls : Array Slot), Xw D false cA ad M_24 (AX false ad) s.heap H locs → lv_has ls 8 [(0, .ref (ad 0)), (1, .int x1), (3, .int x3_5), (4, .int x4_21), (5, .int x5_23)] → W p l e (headSpec wsX11_vote { frames := 2, cells := 0, slots := 0, locals := 46 }).room s m args below meth c H locs 0 0 (MQ below (QvX false D false cA ad M') args s 0 0 (AX false ad)) (F0 m 222 ls [.int y_26, .int (((2 : Int32) * x4_21) + x1), .ref (ad 10)]) := by
                intro H locs ls hW hl
                have hr := hr3
                obtain ⟨hn222, hr⟩ := chk_e hr
                obtain ⟨M_27, eM_27, hr⟩ := lt1_e hr
                refine xiast hx hb hK hW (k := 10) (t := 27) rfl (by decide) (by decide) rfl (n := 8) hn222 (jx := (ix (((2 : Int32) * x4_21) + x1))) rfl dX11_vote_222 (fun H locs hW => ?_)
                rw [← eM_27] at hW
                obtain ⟨x5_28, ex5_28, hr⟩ := lt1_e hr
                refine lv_iinc (v := x5_28) (lv' := [(5, .int x5_28), (0, .ref (ad 0)), (1, .int x1), (3, .int x3_5), (4, .int x4_21)]) hx hb dX11_vote_223 hl (k := 4) rfl (by rw [ex5_28]; rfl) (by decide) rfl (fun ls hl => ?_)
                refine lv_goto (tgt := 170) hx hb dX11_vote_226 (by decide) ?_
                exact ih x5_28 M_27 _ _ _ hW (lv_sub hl [1, 2, 3, 4, 0] rfl) _ hr hk
              clear hr3
              refine lv_icmp_ne (tgt := 211) hx hb dX11_vote_204 (by decide) (fun c1 => ?_) (fun c1 => ?_)
              · have hr := br_n c1 hr
                refine lv_aload_n hx hb dX11_vote_211 rfl (lv_at hl 0 rfl) ?_
                refine g11_11 hx hb hts hi11 hown hK hW (k := 0) rfl (hts _ (wm 2 rfl)) dX11_vote_212 ?_
                refine lv_iconst (v := (2 : Int32)) hx hb dX11_vote_215 (by decide) ?_
                refine lv_iload hx hb dX11_vote_216 (lv_at hl 3 rfl) ?_
                refine lv_imul hx hb dX11_vote_218 ?_
                refine lv_iload_n hx hb dX11_vote_219 rfl (lv_at hl 1 rfl) ?_
                refine lv_iadd hx hb dX11_vote_220 ?_
                obtain ⟨hn221, hr⟩ := chk_e hr
                refine xiald hx hb hK hW (k := 10) (t := 27) rfl (by decide) (by decide) rfl (n := 8) hn221 (jx := (ix (((2 : Int32) * x4_21) + x1))) rfl dX11_vote_221 ?_
                have e1 := Option.some.inj hr
                subst e1
                exact hj222_26 _ _ _ hW (lv_sub hl [0, 1, 2, 3, 4] rfl)
              · have hr := br_p c1 hr
                refine lv_iconst (v := (0 : Int32)) hx hb dX11_vote_207 (by decide) ?_
                refine lv_goto (tgt := 222) hx hb dX11_vote_208 (by decide) ?_
                have e1 := Option.some.inj hr
                subst e1
                exact hj222_26 _ _ _ hW (lv_sub hl [0, 1, 2, 3, 4] rfl)
        obtain ⟨M_25, hr, hr3⟩ := ob1_e hr
        refine hL170_4 1000 (0 : Int32) M_22 _ _ _ M_25 hW (lv_sub hl [1, 2, 3, 4, 0] rfl) hr (fun H locs ls hW hl => ?_)
        clear hr
        have hr := hr3
        obtain ⟨x4_29, ex4_29, hr⟩ := lt1_e hr
        refine lv_iinc (v := x4_29) (lv' := [(4, .int x4_29), (0, .ref (ad 0)), (1, .int x1), (3, .int x3_5)]) hx hb dX11_vote_229 hl (k := 3) rfl (by rw [ex4_29]; rfl) (by decide) rfl (fun ls hl => ?_)
        refine lv_goto (tgt := 155) hx hb dX11_vote_232 (by decide) ?_
        exact ih x4_29 M_25 _ _ _ hW (lv_sub hl [1, 2, 3, 0] rfl) hr
  exact hL155_3 1000 (0 : Int32) M_20 _ _ _ hW (lv_sub hl [1, 2, 3, 0] rfl) hr

def f_X11_size (x0 : Int32) (M : Mm) : Option Int32 :=
(if (0 : Int32) ≤ x0 then (
some x0) else (
some (-x0)))

set_option maxHeartbeats 4000000 in
set_option maxRecDepth 100000 in
theorem c_X11_size (l : Launch) (D : va_G) (cA : Nat → ClassId) (ad : Nat → Nat) (M : Mm) (x0 : Int32) {r : Int32} (hr : f_X11_size x0 M = some r) : Met l yX11_size wsX11_size ({ frames := 0, cells := 0, slots := 0, locals := 0 }) (PcX D false cA ad M [.int x0]) (QiX false D false cA ad r M) 0 0 (AX false ad) := by
  refine Met.ofW (cc := cX11_size) (maxL := 1) (ret := (some .int)) (by decide) rfl ?_
  intro p e s m args below meth c s₁ B hml hv
  obtain ⟨rfl, hP0, hK⟩ := hv
  have hx := B.exec
  have hb := B.bytes
  have hr0 := B.returns
  have hts := atoms_spec (ws := wsX11_size) B.pre
  have hown : s.vm.findClass RX11 = some m.cls := findClass_of_methodNamed B.named
  have hlocks := B.notSynchronized
  have hW := xstart hP0
  have hl := lv_entry ([.int x0]) (n := 1) (Nat.le_of_ble_eq_true rfl)
  rw [lg_entry_eq]
  generalize (lg_sl ([.int x0]) ++ List.replicate (1 - (lg_sl ([.int x0])).length) Slot.unset).toArray = ls at hl ⊢
  have hl : lv_has ls 1 [(0, .int x0)] := hl
  clear hP0
  unfold f_X11_size at hr
  refine lv_iload_n hx hb dX11_size_0 rfl (lv_at hl 0 rfl) ?_
  refine lv_if_ge (tgt := 9) hx hb dX11_size_1 (by decide) (fun c1 => ?_) (fun c1 => ?_)
  · have hr := br_p c1 hr
    refine lv_iload_n hx hb dX11_size_9 rfl (lv_at hl 0 rfl) ?_
    rw [← Option.some.inj hr]
    exact xiret hx hb hr0 hlocks hW adR_rf dX11_size_10
  · have hr := br_n c1 hr
    refine lv_iload_n hx hb dX11_size_4 rfl (lv_at hl 0 rfl) ?_
    refine lv_ineg hx hb dX11_size_5 ?_
    refine lv_goto (tgt := 10) hx hb dX11_size_6 (by decide) ?_
    rw [← Option.some.inj hr]
    exact xiret hx hb hr0 hlocks hW adR_rf dX11_size_10

def f_X11_timeOf (x1 : Int32) (x2 : Int32) (M : Mm) : Option Int64 :=
ob1 (f_X11_of x1 ((13 : Int32) + x2) M) fun r_1 =>
chk (inb (((2 : Int32) * x1) + x2) 8) <|
ob1 (f_X11_of x1 (3 : Int32) M) fun r_2 =>
some ((Int32.toInt64 r_1) - ((Int32.toInt64 (gI M 10 (ix (((2 : Int32) * x1) + x2)))) * (Int32.toInt64 r_2)))

set_option maxHeartbeats 4000000 in
set_option maxRecDepth 100000 in
theorem c_X11_timeOf (l : Launch) (D : va_G) (cA : Nat → ClassId) (ad : Nat → Nat) (M : Mm) (x1 : Int32) (x2 : Int32) {r : Int64} (hr : f_X11_timeOf x1 x2 M = some r) : Met l yX11_timeOf wsX11_timeOf ({ frames := 1, cells := 0, slots := 0, locals := 22 }) (PcX D false cA ad M [.ref (ad 0), .int x1, .int x2]) (QlX false D false cA ad r M) 0 0 (AX false ad) := by
  refine Met.ofW (cc := cX11_timeOf) (maxL := 3) (ret := (some .long)) (by decide) rfl ?_
  intro p e s m args below meth c s₁ B hml hv
  obtain ⟨rfl, hP0, hK⟩ := hv
  have hx := B.exec
  have hb := B.bytes
  have hr0 := B.returns
  have hts := atoms_spec (ws := wsX11_timeOf) B.pre
  have hown : s.vm.findClass RX11 = some m.cls := findClass_of_methodNamed B.named
  have hlocks := B.notSynchronized
  have hW := xstart hP0
  have hi11 : ∀ w ∈ wsX110, w ∈ wsX11_timeOf := fun w h => List.mem_cons_of_mem _ (List.mem_append_right _ h)
  have hl := lv_entry ([.ref (ad 0), .int x1, .int x2]) (n := 3) (Nat.le_of_ble_eq_true rfl)
  rw [lg_entry_eq]
  generalize (lg_sl ([.ref (ad 0), .int x1, .int x2]) ++ List.replicate (3 - (lg_sl ([.ref (ad 0), .int x1, .int x2])).length) Slot.unset).toArray = ls at hl ⊢
  have hl : lv_has ls 3 [(0, .ref (ad 0)), (1, .int x1), (2, .int x2)] := hl
  clear hP0
  unfold f_X11_timeOf at hr
  refine lv_aload_n hx hb dX11_timeOf_0 rfl (lv_at hl 0 rfl) ?_
  refine lv_iload_n hx hb dX11_timeOf_1 rfl (lv_at hl 1 rfl) ?_
  refine lv_bipush (v := (13 : Int32)) hx hb dX11_timeOf_2 (by decide) ?_
  refine lv_iload_n hx hb dX11_timeOf_4 rfl (lv_at hl 2 rfl) ?_
  refine lv_iadd hx hb dX11_timeOf_5 ?_
  obtain ⟨r_1, hc6, hr⟩ := ob1_e hr
  refine xk_i (va_runV (As := [.int x1, .int ((13 : Int32) + x2)]) (rest := []) ⟨hx, hb, hml, hown, hts⟩ (c_X11_of l D cA ad M x1 ((13 : Int32) + x2) hc6) (cwV 2 hts gX11_timeOf_X11_of rfl rfl rfl (by decide +kernel) ⟨Nat.le_of_ble_eq_true rfl, Nat.le_of_ble_eq_true rfl⟩) (xpreV hK hW (k := 0) rfl (by decide) rfl) rfl rfl hl.1 rfl (lv_room (Nat.le_of_ble_eq_true rfl)) dX11_timeOf_6 ⟨Nat.le_of_ble_eq_true rfl, Nat.le_of_ble_eq_true rfl⟩) hW (fun H locs hW => ?_)
  refine lv_i2l hx hb dX11_timeOf_9 rfl ?_
  refine lv_aload_n hx hb dX11_timeOf_10 rfl (lv_at hl 0 rfl) ?_
  refine g11_11 hx hb hts hi11 hown hK hW (k := 0) rfl (hts _ (wm 1 rfl)) dX11_timeOf_11 ?_
  refine lv_iconst (v := (2 : Int32)) hx hb dX11_timeOf_14 (by decide) ?_
  refine lv_iload_n hx hb dX11_timeOf_15 rfl (lv_at hl 1 rfl) ?_
  refine lv_imul hx hb dX11_timeOf_16 ?_
  refine lv_iload_n hx hb dX11_timeOf_17 rfl (lv_at hl 2 rfl) ?_
  refine lv_iadd hx hb dX11_timeOf_18 ?_
  obtain ⟨hn19, hr⟩ := chk_e hr
  refine xiald hx hb hK hW (k := 10) (t := 27) rfl (by decide) (by decide) rfl (n := 8) hn19 (jx := (ix (((2 : Int32) * x1) + x2))) rfl dX11_timeOf_19 ?_
  refine lv_i2l hx hb dX11_timeOf_20 rfl ?_
  refine lv_aload_n hx hb dX11_timeOf_21 rfl (lv_at hl 0 rfl) ?_
  refine lv_iload_n hx hb dX11_timeOf_22 rfl (lv_at hl 1 rfl) ?_
  refine lv_iconst (v := (3 : Int32)) hx hb dX11_timeOf_23 (by decide) ?_
  obtain ⟨r_2, hc24, hr⟩ := ob1_e hr
  refine xk_i (va_runV (As := [.int x1, .int (3 : Int32)]) (rest := [.long (Int32.toInt64 (gI M 10 (ix (((2 : Int32) * x1) + x2)))), .long (Int32.toInt64 r_1)]) ⟨hx, hb, hml, hown, hts⟩ (c_X11_of l D cA ad M x1 (3 : Int32) hc24) (cwV 2 hts gX11_timeOf_X11_of rfl rfl rfl (by decide +kernel) ⟨Nat.le_of_ble_eq_true rfl, Nat.le_of_ble_eq_true rfl⟩) (xpreV hK hW (k := 0) rfl (by decide) rfl) rfl rfl hl.1 rfl (lv_room (Nat.le_of_ble_eq_true rfl)) dX11_timeOf_24 ⟨Nat.le_of_ble_eq_true rfl, Nat.le_of_ble_eq_true rfl⟩) hW (fun H locs hW => ?_)
  refine lv_i2l hx hb dX11_timeOf_27 rfl ?_
  refine lv_lmul hx hb dX11_timeOf_28 ?_
  refine lv_lsub hx hb dX11_timeOf_29 ?_
  rw [← Option.some.inj hr]
  exact xlret hx hb hr0 hlocks hW adR_rf dX11_timeOf_30

def f_X11_isOff (x1 : Int32) (x2 : Int32) (M : Mm) : Option Int32 :=
chk (inb ((2 : Int32) * x1) 8) <|
ob1 (f_X11_size (gI M 10 (ix ((2 : Int32) * x1))) M) fun r_1 =>
ob1 ((if x2 < r_1 then (
some (1 : Int32)) else (
chk (inb (((2 : Int32) * x1) + (1 : Int32)) 8) <|
ob1 (f_X11_size (gI M 10 (ix (((2 : Int32) * x1) + (1 : Int32)))) M) fun r_3 =>
(if r_3 ≤ x2 then (
some (0 : Int32)) else (
some (1 : Int32)))))) fun y_2 =>
ob1 (f_X11_of x1 (4 : Int32) M) fun r_4 =>
lt1 ((Int32.toInt64 (r_4 + (1000 : Int32)))) fun x4_5 =>
(if y_2 = (0 : Int32) then (
ob1 (f_X11_timeOf x1 (0 : Int32) M) fun r_6 =>
(if r_6 < x4_5 then (
some (1 : Int32)) else (
ob1 (f_X11_timeOf x1 (1 : Int32) M) fun r_7 =>
(if x4_5 ≤ r_7 then (
some (0 : Int32)) else (
some (1 : Int32)))))) else (
some (1 : Int32)))

set_option maxHeartbeats 4000000 in
set_option maxRecDepth 100000 in
theorem c_X11_isOff (l : Launch) (D : va_G) (cA : Nat → ClassId) (ad : Nat → Nat) (M : Mm) (x1 : Int32) (x2 : Int32) {r : Int32} (hr : f_X11_isOff x1 x2 M = some r) : Met l yX11_isOff wsX11_isOff ({ frames := 2, cells := 0, slots := 0, locals := 44 }) (PcX D false cA ad M [.ref (ad 0), .int x1, .int x2]) (QiX false D false cA ad r M) 0 0 (AX false ad) := by
  refine Met.ofW (cc := cX11_isOff) (maxL := 6) (ret := (some .boolean)) (by decide) rfl ?_
  intro p e s m args below meth c s₁ B hml hv
  obtain ⟨rfl, hP0, hK⟩ := hv
  have hx := B.exec
  have hb := B.bytes
  have hr0 := B.returns
  have hts := atoms_spec (ws := wsX11_isOff) B.pre
  have hown : s.vm.findClass RX11 = some m.cls := findClass_of_methodNamed B.named
  have hlocks := B.notSynchronized
  have hW := xstart hP0
  have hi11 : ∀ w ∈ wsX110, w ∈ wsX11_isOff := fun w h => List.mem_cons_of_mem _ (List.mem_append_right _ h)
  have hl := lv_entry ([.ref (ad 0), .int x1, .int x2]) (n := 6) (Nat.le_of_ble_eq_true rfl)
  rw [lg_entry_eq]
  generalize (lg_sl ([.ref (ad 0), .int x1, .int x2]) ++ List.replicate (6 - (lg_sl ([.ref (ad 0), .int x1, .int x2])).length) Slot.unset).toArray = ls at hl ⊢
  have hl : lv_has ls 6 [(0, .ref (ad 0)), (1, .int x1), (2, .int x2)] := hl
  clear hP0
  unfold f_X11_isOff at hr
  refine lv_aload_n hx hb dX11_isOff_0 rfl (lv_at hl 0 rfl) ?_
  refine g11_11 hx hb hts hi11 hown hK hW (k := 0) rfl (hts _ (wm 1 rfl)) dX11_isOff_1 ?_
  refine lv_iconst (v := (2 : Int32)) hx hb dX11_isOff_4 (by decide) ?_
  refine lv_iload_n hx hb dX11_isOff_5 rfl (lv_at hl 1 rfl) ?_
  refine lv_imul hx hb dX11_isOff_6 ?_
  obtain ⟨hn7, hr⟩ := chk_e hr
  refine xiald hx hb hK hW (k := 10) (t := 27) rfl (by decide) (by decide) rfl (n := 8) hn7 (jx := (ix ((2 : Int32) * x1))) rfl dX11_isOff_7 ?_
  obtain ⟨r_1, hc8, hr⟩ := ob1_e hr
  refine xk_i (va_runS (As := [.int (gI M 10 (ix ((2 : Int32) * x1)))]) (rest := []) ⟨hx, hb, hml, hown, hts⟩ (c_X11_size l D cA ad M (gI M 10 (ix ((2 : Int32) * x1))) hc8) (va_cwS 1 hts gX11_isOff_X11_size rfl rfl rfl (by decide +kernel) ⟨Nat.le_of_ble_eq_true rfl, Nat.le_of_ble_eq_true rfl⟩) (xpreS hK hW) rfl rfl hl.1 rfl (lv_room (Nat.le_of_ble_eq_true rfl)) dX11_isOff_8 ⟨Nat.le_of_ble_eq_true rfl, Nat.le_of_ble_eq_true rfl⟩) hW (fun H locs hW => ?_)
  refine lv_iload_n hx hb dX11_isOff_11 rfl (lv_at hl 2 rfl) ?_
  obtain ⟨y_2, hr, hr3⟩ := ob1_e hr
  have hj37_2 : ∀ (H : Heap) (locs : List Loc) (ls : Array Slot), Xw D false cA ad M (AX false ad) s.heap H locs → lv_has ls 6 [(0, .ref (ad 0)), (1, .int x1)] → W p l e (headSpec wsX11_isOff { frames := 2, cells := 0, slots := 0, locals := 44 }).room s m args below meth c H locs 0 0 (MQ below (QiX false D false cA ad r M) args s 0 0 (AX false ad)) (F0 m 37 ls [.int y_2]) := by
    intro H locs ls hW hl
    have hr := hr3
    refine lv_istore_n (lv' := [(3, .int y_2), (0, .ref (ad 0)), (1, .int x1)]) hx hb dX11_isOff_37 rfl hl (by decide) rfl (fun ls hl => ?_)
    refine lv_aload_n hx hb dX11_isOff_38 rfl (lv_at hl 1 rfl) ?_
    refine lv_iload_n hx hb dX11_isOff_39 rfl (lv_at hl 2 rfl) ?_
    refine lv_iconst (v := (4 : Int32)) hx hb dX11_isOff_40 (by decide) ?_
    obtain ⟨r_4, hc41, hr⟩ := ob1_e hr
    refine xk_i (va_runV (As := [.int x1, .int (4 : Int32)]) (rest := []) ⟨hx, hb, hml, hown, hts⟩ (c_X11_of l D cA ad M x1 (4 : Int32) hc41) (cwV 2 hts gX11_isOff_X11_of rfl rfl rfl (by decide +kernel) ⟨Nat.le_of_ble_eq_true rfl, Nat.le_of_ble_eq_true rfl⟩) (xpreV hK hW (k := 0) rfl (by decide) rfl) rfl rfl hl.1 rfl (lv_room (Nat.le_of_ble_eq_true rfl)) dX11_isOff_41 ⟨Nat.le_of_ble_eq_true rfl, Nat.le_of_ble_eq_true rfl⟩) hW (fun H locs hW => ?_)
    refine lv_sipush (v := (1000 : Int32)) hx hb dX11_isOff_44 (by decide) ?_
    refine lv_iadd hx hb dX11_isOff_47 ?_
    refine lv_i2l hx hb dX11_isOff_48 rfl ?_
    obtain ⟨x4_5, ex4_5, hr⟩ := lt1_e hr
    rw [← ex4_5]
    refine lv_lstore (lv' := [(4, .long x4_5), (3, .int y_2), (0, .ref (ad 0)), (1, .int x1)]) hx hb dX11_isOff_49 hl (by decide) rfl (fun ls hl => ?_)
    refine lv_iload_n hx hb dX11_isOff_51 rfl (lv_at hl 1 rfl) ?_
    refine lv_if_ne (tgt := 79) hx hb dX11_isOff_52 (by decide) (fun c1 => ?_) (fun c1 => ?_)
    · have hr := br_n c1 hr
      refine lv_iconst (v := (1 : Int32)) hx hb dX11_isOff_79 (by decide) ?_
      refine lv_goto (tgt := 84) hx hb dX11_isOff_80 (by decide) ?_
      rw [← Option.some.inj hr]
      exact xzret hx hb hr0 hlocks hW adR_rf (by decide) dX11_isOff_84
    · have hr := br_p c1 hr
      refine lv_aload_n hx hb dX11_isOff_55 rfl (lv_at hl 2 rfl) ?_
      refine lv_iload_n hx hb dX11_isOff_56 rfl (lv_at hl 3 rfl) ?_
      refine lv_iconst (v := (0 : Int32)) hx hb dX11_isOff_57 (by decide) ?_
      obtain ⟨r_6, hc58, hr⟩ := ob1_e hr
      refine xk_l (va_runV (As := [.int x1, .int (0 : Int32)]) (rest := []) ⟨hx, hb, hml, hown, hts⟩ (c_X11_timeOf l D cA ad M x1 (0 : Int32) hc58) (cwV 2 hts gX11_isOff_X11_timeOf rfl rfl rfl (by decide +kernel) ⟨Nat.le_of_ble_eq_true rfl, Nat.le_of_ble_eq_true rfl⟩) (xpreV hK hW (k := 0) rfl (by decide) rfl) rfl rfl hl.1 rfl (lv_room (Nat.le_of_ble_eq_true rfl)) dX11_isOff_58 ⟨Nat.le_of_ble_eq_true rfl, Nat.le_of_ble_eq_true rfl⟩) hW (fun H locs hW => ?_)
      refine lv_lload hx hb dX11_isOff_61 (lv_at hl 0 rfl) ?_
      refine xlc_lt (tgt := 79) hx hb dX11_isOff_63 dX11_isOff_64 (by decide) (fun c1 => ?_) (fun c1 => ?_)
      · have hr := br_p c1 hr
        refine lv_iconst (v := (1 : Int32)) hx hb dX11_isOff_79 (by decide) ?_
        refine lv_goto (tgt := 84) hx hb dX11_isOff_80 (by decide) ?_
        rw [← Option.some.inj hr]
        exact xzret hx hb hr0 hlocks hW adR_rf (by decide) dX11_isOff_84
      · have hr := br_n c1 hr
        refine lv_aload_n hx hb dX11_isOff_67 rfl (lv_at hl 2 rfl) ?_
        refine lv_iload_n hx hb dX11_isOff_68 rfl (lv_at hl 3 rfl) ?_
        refine lv_iconst (v := (1 : Int32)) hx hb dX11_isOff_69 (by decide) ?_
        obtain ⟨r_7, hc70, hr⟩ := ob1_e hr
        refine xk_l (va_runV (As := [.int x1, .int (1 : Int32)]) (rest := []) ⟨hx, hb, hml, hown, hts⟩ (c_X11_timeOf l D cA ad M x1 (1 : Int32) hc70) (cwV 2 hts gX11_isOff_X11_timeOf rfl rfl rfl (by decide +kernel) ⟨Nat.le_of_ble_eq_true rfl, Nat.le_of_ble_eq_true rfl⟩) (xpreV hK hW (k := 0) rfl (by decide) rfl) rfl rfl hl.1 rfl (lv_room (Nat.le_of_ble_eq_true rfl)) dX11_isOff_70 ⟨Nat.le_of_ble_eq_true rfl, Nat.le_of_ble_eq_true rfl⟩) hW (fun H locs hW => ?_)
        refine lv_lload hx hb dX11_isOff_73 (lv_at hl 0 rfl) ?_
        refine xlc_ge (tgt := 83) hx hb dX11_isOff_75 dX11_isOff_76 (by decide) (fun c1 => ?_) (fun c1 => ?_)
        · have hr := br_p c1 hr
          refine lv_iconst (v := (0 : Int32)) hx hb dX11_isOff_83 (by decide) ?_
          rw [← Option.some.inj hr]
          exact xzret hx hb hr0 hlocks hW adR_rf (by decide) dX11_isOff_84
        · have hr := br_n c1 hr
          refine lv_iconst (v := (1 : Int32)) hx hb dX11_isOff_79 (by decide) ?_
          refine lv_goto (tgt := 84) hx hb dX11_isOff_80 (by decide) ?_
          rw [← Option.some.inj hr]
          exact xzret hx hb hr0 hlocks hW adR_rf (by decide) dX11_isOff_84
  clear hr3
  refine lv_icmp_gt (tgt := 32) hx hb dX11_isOff_12 (by decide) (fun c1 => ?_) (fun c1 => ?_)
  · have hr := br_p c1 hr
    refine lv_iconst (v := (1 : Int32)) hx hb dX11_isOff_32 (by decide) ?_
    refine lv_goto (tgt := 37) hx hb dX11_isOff_33 (by decide) ?_
    have e1 := Option.some.inj hr
    subst e1
    exact hj37_2 _ _ _ hW (lv_sub hl [0, 1] rfl)
  · have hr := br_n c1 hr
    refine lv_aload_n hx hb dX11_isOff_15 rfl (lv_at hl 0 rfl) ?_
    refine g11_11 hx hb hts hi11 hown hK hW (k := 0) rfl (hts _ (wm 1 rfl)) dX11_isOff_16 ?_
    refine lv_iconst (v := (2 : Int32)) hx hb dX11_isOff_19 (by decide) ?_
    refine lv_iload_n hx hb dX11_isOff_20 rfl (lv_at hl 1 rfl) ?_
    refine lv_imul hx hb dX11_isOff_21 ?_
    refine lv_iconst (v := (1 : Int32)) hx hb dX11_isOff_22 (by decide) ?_
    refine lv_iadd hx hb dX11_isOff_23 ?_
    obtain ⟨hn24, hr⟩ := chk_e hr
    refine xiald hx hb hK hW (k := 10) (t := 27) rfl (by decide) (by decide) rfl (n := 8) hn24 (jx := (ix (((2 : Int32) * x1) + (1 : Int32)))) rfl dX11_isOff_24 ?_
    obtain ⟨r_3, hc25, hr⟩ := ob1_e hr
    refine xk_i (va_runS (As := [.int (gI M 10 (ix (((2 : Int32) * x1) + (1 : Int32))))]) (rest := []) ⟨hx, hb, hml, hown, hts⟩ (c_X11_size l D cA ad M (gI M 10 (ix (((2 : Int32) * x1) + (1 : Int32)))) hc25) (va_cwS 1 hts gX11_isOff_X11_size rfl rfl rfl (by decide +kernel) ⟨Nat.le_of_ble_eq_true rfl, Nat.le_of_ble_eq_true rfl⟩) (xpreS hK hW) rfl rfl hl.1 rfl (lv_room (Nat.le_of_ble_eq_true rfl)) dX11_isOff_25 ⟨Nat.le_of_ble_eq_true rfl, Nat.le_of_ble_eq_true rfl⟩) hW (fun H locs hW => ?_)
    refine lv_iload_n hx hb dX11_isOff_28 rfl (lv_at hl 2 rfl) ?_
    refine lv_icmp_le (tgt := 36) hx hb dX11_isOff_29 (by decide) (fun c1 => ?_) (fun c1 => ?_)
    · have hr := br_p c1 hr
      refine lv_iconst (v := (0 : Int32)) hx hb dX11_isOff_36 (by decide) ?_
      have e1 := Option.some.inj hr
      subst e1
      exact hj37_2 _ _ _ hW (lv_sub hl [0, 1] rfl)
    · have hr := br_n c1 hr
      refine lv_iconst (v := (1 : Int32)) hx hb dX11_isOff_32 (by decide) ?_
      refine lv_goto (tgt := 37) hx hb dX11_isOff_33 (by decide) ?_
      have e1 := Option.some.inj hr
      subst e1
      exact hj37_2 _ _ _ hW (lv_sub hl [0, 1] rfl)

def f_X11_weighted_L7 (M : Mm) : Nat → Int64 → Int64 → Int32 → Option (Int64 × Int64)
  | 0, _, _, _ => none
  | n + 1, x1_1, x3_2, x5_3 =>
(if (gI M 1 64) ≤ x5_3 then (
some (x1_1, x3_2)) else (
chk (inb x5_3 4) <|
ob1 ((if (gI M 13 (ix x5_3)) = (0 : Int32) then (
some (0 : Int64)) else (
chk (inb x5_3 4) <|
ob1 (f_X11_of x5_3 (2 : Int32) M) fun r_7 =>
some ((gJ M 12 (ix x5_3)) * (Int32.toInt64 r_7))))) fun y_6 =>
lt1 ((x1_1 + y_6)) fun x1_8 =>
chk (inb x5_3 4) <|
ob1 ((if (gI M 13 (ix x5_3)) = (0 : Int32) then (
some (0 : Int64)) else (
ob1 (f_X11_of x5_3 (2 : Int32) M) fun r_10 =>
some (Int32.toInt64 r_10)))) fun y_9 =>
lt1 ((x3_2 + y_9)) fun x3_11 =>
lt1 (x5_3 + (1 : Int32)) fun x5_12 =>
f_X11_weighted_L7 M n x1_8 x3_11 x5_12))

def f_X11_weighted (M : Mm) : Option Int64 :=
ob2 (f_X11_weighted_L7 M 1000 (0 : Int64) (0 : Int64) (0 : Int32)) fun x1_4 x3_5 =>
chk (decide (¬ x3_5 = 0)) <|
some (x1_4 / x3_5)

set_option maxHeartbeats 4000000 in
set_option maxRecDepth 100000 in
theorem c_X11_weighted (l : Launch) (D : va_G) (cA : Nat → ClassId) (ad : Nat → Nat) (M : Mm) {r : Int64} (hr : f_X11_weighted M = some r) : Met l yX11_weighted wsX11_weighted ({ frames := 1, cells := 0, slots := 0, locals := 22 }) (PcX D false cA ad M [.ref (ad 0)]) (QlX false D false cA ad r M) 0 0 (AX false ad) := by
  refine Met.ofW (cc := cX11_weighted) (maxL := 6) (ret := (some .long)) (by decide) rfl ?_
  intro p e s m args below meth c s₁ B hml hv
  obtain ⟨rfl, hP0, hK⟩ := hv
  have hx := B.exec
  have hb := B.bytes
  have hr0 := B.returns
  have hts := atoms_spec (ws := wsX11_weighted) B.pre
  have hown : s.vm.findClass RX11 = some m.cls := findClass_of_methodNamed B.named
  have hlocks := B.notSynchronized
  have hW := xstart hP0
  have hi11 : ∀ w ∈ wsX110, w ∈ wsX11_weighted := fun w h => List.mem_cons_of_mem _ (List.mem_append_right _ h)
  have hl := lv_entry ([.ref (ad 0)]) (n := 6) (Nat.le_of_ble_eq_true rfl)
  rw [lg_entry_eq]
  generalize (lg_sl ([.ref (ad 0)]) ++ List.replicate (6 - (lg_sl ([.ref (ad 0)])).length) Slot.unset).toArray = ls at hl ⊢
  have hl : lv_has ls 6 [(0, .ref (ad 0))] := hl
  clear hP0
  unfold f_X11_weighted at hr
  refine lv_lconst (v := (0 : Int64)) hx hb dX11_weighted_0 (by decide) ?_
  refine lv_lstore_n (lv' := [(1, .long (0 : Int64)), (0, .ref (ad 0))]) hx hb dX11_weighted_1 rfl hl (by decide) rfl (fun ls hl => ?_)
  refine lv_lconst (v := (0 : Int64)) hx hb dX11_weighted_2 (by decide) ?_
  refine lv_lstore_n (lv' := [(3, .long (0 : Int64)), (1, .long (0 : Int64)), (0, .ref (ad 0))]) hx hb dX11_weighted_3 rfl hl (by decide) rfl (fun ls hl => ?_)
  refine lv_iconst (v := (0 : Int32)) hx hb dX11_weighted_4 (by decide) ?_
  refine lv_istore (lv' := [(5, .int (0 : Int32)), (3, .long (0 : Int64)), (1, .long (0 : Int64)), (0, .ref (ad 0))]) hx hb dX11_weighted_5 hl (by decide) rfl (fun ls hl => ?_)
  have hL7_1 : ∀ (n : Nat) (x1_1 : Int64) (x3_2 : Int64) (x5_3 : Int32) (H : Heap) (locs : List Loc) (ls : Array Slot) (x1_4 : Int64) (x3_5 : Int64), Xw D false cA ad M (AX false ad) s.heap H locs → lv_has ls 6 [(0, .ref (ad 0)), (1, .long x1_1), (3, .long x3_2), (5, .int x5_3)] → f_X11_weighted_L7 M n x1_1 x3_2 x5_3 = some (x1_4, x3_5) → (∀ (H : Heap) (locs : List Loc) (ls : Array Slot), Xw D false cA ad M (AX false ad) s.heap H locs → lv_has ls 6 [(1, .long x1_4), (3, .long x3_5)] → W p l e (headSpec wsX11_weighted { frames := 1, cells := 0, slots := 0, locals := 22 }).room s m args below meth c H locs 0 0 (MQ below (QlX false D false cA ad r M) args s 0 0 (AX false ad)) (F0 m 83 ls [])) → W p l e (headSpec wsX11_weighted { frames := 1, cells := 0, slots := 0, locals := 22 }).room s m args below meth c H locs 0 0 (MQ below (QlX false D false cA ad r M) args s 0 0 (AX false ad)) (F0 m 7 ls []) := by
    intro n
    induction n with
    | zero =>
      intro x1_1 x3_2 x5_3 H locs ls x1_4 x3_5 hW hl hr hk
      exact absurd hr (by simp [f_X11_weighted_L7])
    | succ n ih =>
      intro x1_1 x3_2 x5_3 H locs ls x1_4 x3_5 hW hl hr hk
      rw [f_X11_weighted_L7] at hr
      refine lv_iload hx hb dX11_weighted_7 (lv_at hl 3 rfl) ?_
      refine lv_aload_n hx hb dX11_weighted_9 rfl (lv_at hl 0 rfl) ?_
      refine g11_0 hx hb hts hi11 hown hK hW (k := 0) rfl (hts _ (wm 1 rfl)) dX11_weighted_10 ?_
      refine lv_bipush (v := (64 : Int32)) hx hb dX11_weighted_13 (by decide) ?_
      refine xiald hx hb hK hW (k := 1) (t := 24) rfl (by decide) (by decide) rfl (n := 159) (by decide) (jx := 64) (by decide) dX11_weighted_15 ?_
      refine lv_icmp_ge (tgt := 83) hx hb dX11_weighted_16 (by decide) (fun c1 => ?_) (fun c1 => ?_)
      · have hr := br_p c1 hr
        obtain ⟨e1, e2⟩ := Prod.mk.inj (Option.some.inj hr)
        subst e1
        subst e2
        exact hk _ _ _ hW (lv_sub hl [1, 2] rfl)
      · have hr := br_n c1 hr
        refine lv_lload_n hx hb dX11_weighted_19 rfl (lv_at hl 1 rfl) ?_
        refine lv_aload_n hx hb dX11_weighted_20 rfl (lv_at hl 0 rfl) ?_
        refine g11_14 hx hb hts hi11 hown hK hW (k := 0) rfl (hts _ (wm 2 rfl)) dX11_weighted_21 ?_
        refine lv_iload hx hb dX11_weighted_24 (lv_at hl 3 rfl) ?_
        obtain ⟨hn26, hr⟩ := chk_e hr
        refine xzald hx hb hK hW (k := 13) (t := 30) rfl (by decide) (by decide) rfl (n := 4) hn26 (jx := (ix x5_3)) rfl dX11_weighted_26 ?_
        obtain ⟨y_6, hr, hr3⟩ := ob1_e hr
        have hj50_6 : ∀ (H : Heap) (locs : List Loc) (ls : Array Slot), Xw D false cA ad M (AX false ad) s.heap H locs → lv_has ls 6 [(0, .ref (ad 0)), (3, .long x3_2), (5, .int x5_3)] → W p l e (headSpec wsX11_weighted { frames := 1, cells := 0, slots := 0, locals := 22 }).room s m args below meth c H locs 0 0 (MQ below (QlX false D false cA ad r M) args s 0 0 (AX false ad)) (F0 m 50 ls [.long y_6, .long x1_1]) := by
          intro H locs ls hW hl
          have hr := hr3
          refine lv_ladd hx hb dX11_weighted_50 ?_
          obtain ⟨x1_8, ex1_8, hr⟩ := lt1_e hr
          rw [← ex1_8]
          refine lv_lstore_n (lv' := [(1, .long x1_8), (0, .ref (ad 0)), (3, .long x3_2), (5, .int x5_3)]) hx hb dX11_weighted_51 rfl hl (by decide) rfl (fun ls hl => ?_)
          refine lv_lload_n hx hb dX11_weighted_52 rfl (lv_at hl 2 rfl) ?_
          refine lv_aload_n hx hb dX11_weighted_53 rfl (lv_at hl 1 rfl) ?_
          refine g11_14 hx hb hts hi11 hown hK hW (k := 0) rfl (hts _ (wm 2 rfl)) dX11_weighted_54 ?_
          refine lv_iload hx hb dX11_weighted_57 (lv_at hl 3 rfl) ?_
          obtain ⟨hn59, hr⟩ := chk_e hr
          refine xzald hx hb hK hW (k := 13) (t := 30) rfl (by decide) (by decide) rfl (n := 4) hn59 (jx := (ix x5_3)) rfl dX11_weighted_59 ?_
          obtain ⟨y_9, hr, hr3⟩ := ob1_e hr
          have hj75_9 : ∀ (H : Heap) (locs : List Loc) (ls : Array Slot), Xw D false cA ad M (AX false ad) s.heap H locs → lv_has ls 6 [(1, .long x1_8), (0, .ref (ad 0)), (5, .int x5_3)] → W p l e (headSpec wsX11_weighted { frames := 1, cells := 0, slots := 0, locals := 22 }).room s m args below meth c H locs 0 0 (MQ below (QlX false D false cA ad r M) args s 0 0 (AX false ad)) (F0 m 75 ls [.long y_9, .long x3_2]) := by
            intro H locs ls hW hl
            have hr := hr3
            refine lv_ladd hx hb dX11_weighted_75 ?_
            obtain ⟨x3_11, ex3_11, hr⟩ := lt1_e hr
            rw [← ex3_11]
            refine lv_lstore_n (lv' := [(3, .long x3_11), (1, .long x1_8), (0, .ref (ad 0)), (5, .int x5_3)]) hx hb dX11_weighted_76 rfl hl (by decide) rfl (fun ls hl => ?_)
            obtain ⟨x5_12, ex5_12, hr⟩ := lt1_e hr
            refine lv_iinc (v := x5_12) (lv' := [(5, .int x5_12), (3, .long x3_11), (1, .long x1_8), (0, .ref (ad 0))]) hx hb dX11_weighted_77 hl (k := 3) rfl (by rw [ex5_12]; rfl) (by decide) rfl (fun ls hl => ?_)
            refine lv_goto (tgt := 7) hx hb dX11_weighted_80 (by decide) ?_
            exact ih x1_8 x3_11 x5_12 _ _ _ hW (lv_sub hl [3, 2, 1, 0] rfl) _ _ hr hk
          clear hr3
          refine lv_if_eq (tgt := 74) hx hb dX11_weighted_60 (by decide) (fun c1 => ?_) (fun c1 => ?_)
          · have hr := br_p c1 hr
            refine lv_lconst (v := (0 : Int64)) hx hb dX11_weighted_74 (by decide) ?_
            have e1 := Option.some.inj hr
            subst e1
            exact hj75_9 _ _ _ hW (lv_sub hl [0, 1, 3] rfl)
          · have hr := br_n c1 hr
            refine lv_aload_n hx hb dX11_weighted_63 rfl (lv_at hl 1 rfl) ?_
            refine lv_iload hx hb dX11_weighted_64 (lv_at hl 3 rfl) ?_
            refine lv_iconst (v := (2 : Int32)) hx hb dX11_weighted_66 (by decide) ?_
            obtain ⟨r_10, hc67, hr⟩ := ob1_e hr
            refine xk_i (va_runV (As := [.int x5_3, .int (2 : Int32)]) (rest := [.long x3_2]) ⟨hx, hb, hml, hown, hts⟩ (c_X11_of l D cA ad M x5_3 (2 : Int32) hc67) (cwV 2 hts gX11_weighted_X11_of rfl rfl rfl (by decide +kernel) ⟨Nat.le_of_ble_eq_true rfl, Nat.le_of_ble_eq_true rfl⟩) (xpreV hK hW (k := 0) rfl (by decide) rfl) rfl rfl hl.1 rfl (lv_room (Nat.le_of_ble_eq_true rfl)) dX11_weighted_67 ⟨Nat.le_of_ble_eq_true rfl, Nat.le_of_ble_eq_true rfl⟩) hW (fun H locs hW => ?_)
            refine lv_i2l hx hb dX11_weighted_70 rfl ?_
            refine lv_goto (tgt := 75) hx hb dX11_weighted_71 (by decide) ?_
            have e1 := Option.some.inj hr
            subst e1
            exact hj75_9 _ _ _ hW (lv_sub hl [0, 1, 3] rfl)
        clear hr3
        refine lv_if_eq (tgt := 49) hx hb dX11_weighted_27 (by decide) (fun c1 => ?_) (fun c1 => ?_)
        · have hr := br_p c1 hr
          refine lv_lconst (v := (0 : Int64)) hx hb dX11_weighted_49 (by decide) ?_
          have e1 := Option.some.inj hr
          subst e1
          exact hj50_6 _ _ _ hW (lv_sub hl [0, 2, 3] rfl)
        · have hr := br_n c1 hr
          refine lv_aload_n hx hb dX11_weighted_30 rfl (lv_at hl 0 rfl) ?_
          refine g11_13 hx hb hts hi11 hown hK hW (k := 0) rfl (hts _ (wm 3 rfl)) dX11_weighted_31 ?_
          refine lv_iload hx hb dX11_weighted_34 (lv_at hl 3 rfl) ?_
          obtain ⟨hn36, hr⟩ := chk_e hr
          refine xlald hx hb hK hW (k := 12) (t := 43) rfl (by decide) (by decide) rfl (n := 4) hn36 (jx := (ix x5_3)) rfl dX11_weighted_36 ?_
          refine lv_aload_n hx hb dX11_weighted_37 rfl (lv_at hl 0 rfl) ?_
          refine lv_iload hx hb dX11_weighted_38 (lv_at hl 3 rfl) ?_
          refine lv_iconst (v := (2 : Int32)) hx hb dX11_weighted_40 (by decide) ?_
          obtain ⟨r_7, hc41, hr⟩ := ob1_e hr
          refine xk_i (va_runV (As := [.int x5_3, .int (2 : Int32)]) (rest := [.long (gJ M 12 (ix x5_3)), .long x1_1]) ⟨hx, hb, hml, hown, hts⟩ (c_X11_of l D cA ad M x5_3 (2 : Int32) hc41) (cwV 2 hts gX11_weighted_X11_of rfl rfl rfl (by decide +kernel) ⟨Nat.le_of_ble_eq_true rfl, Nat.le_of_ble_eq_true rfl⟩) (xpreV hK hW (k := 0) rfl (by decide) rfl) rfl rfl hl.1 rfl (lv_room (Nat.le_of_ble_eq_true rfl)) dX11_weighted_41 ⟨Nat.le_of_ble_eq_true rfl, Nat.le_of_ble_eq_true rfl⟩) hW (fun H locs hW => ?_)
          refine lv_i2l hx hb dX11_weighted_44 rfl ?_
          refine lv_lmul hx hb dX11_weighted_45 ?_
          refine lv_goto (tgt := 50) hx hb dX11_weighted_46 (by decide) ?_
          have e1 := Option.some.inj hr
          subst e1
          exact hj50_6 _ _ _ hW (lv_sub hl [0, 2, 3] rfl)
  obtain ⟨x1_4, x3_5, hr, hr3⟩ := ob2_e hr
  refine hL7_1 1000 (0 : Int64) (0 : Int64) (0 : Int32) _ _ _ x1_4 x3_5 hW (lv_sub hl [3, 2, 1, 0] rfl) hr (fun H locs ls hW hl => ?_)
  clear hr
  have hr := hr3
  refine lv_lload_n hx hb dX11_weighted_83 rfl (lv_at hl 0 rfl) ?_
  refine lv_lload_n hx hb dX11_weighted_84 rfl (lv_at hl 1 rfl) ?_
  obtain ⟨hc85, hr⟩ := chk_e hr
  refine lv_ldiv hx hb dX11_weighted_85 (of_decide_eq_true hc85) ?_
  rw [← Option.some.inj hr]
  exact xlret hx hb hr0 hlocks hW adR_rf dX11_weighted_86

def f_X11_worksOut_L36 (x1 : Int32) : Nat → Int32 → Mm → Option Mm
  | 0, _, _ => none
  | n + 1, x2_8, M_9 =>
(if (gI M_9 1 64) ≤ x2_8 then (
some M_9) else (
chk (inb x2_8 4) <|
lt1 (wI M_9 13 (ix x2_8) (0 : Int32)) fun M_11 =>
chk (inb x2_8 4) <|
ob1 ((if (gI M_11 9 (ix x2_8)) = (4 : Int32) then (
chk (inb ((2 : Int32) * x2_8) 8) <|
ob1 ((if (gI M_11 10 (ix ((2 : Int32) * x2_8))) = (0 : Int32) then (
chk (inb (((2 : Int32) * x2_8) + (1 : Int32)) 8) <|
(if (gI M_11 10 (ix (((2 : Int32) * x2_8) + (1 : Int32)))) = (0 : Int32) then (
some (0 : Int32)) else (
some (1 : Int32)))) else (
some (1 : Int32)))) fun y_13 =>
ob1 (f_X11_isOff x2_8 x1 M_11) fun r_14 =>
ob1 ((if r_14 = (0 : Int32) then (
(if y_13 = (0 : Int32) then (
some (4 : Int32)) else (
some (3 : Int32)))) else (
some (2 : Int32)))) fun y_15 =>
chk (inb x2_8 4) <|
lt1 (wI M_11 9 (ix x2_8) y_15) fun M_16 =>
chk (inb x2_8 4) <|
ob1 ((if (gI M_16 9 (ix x2_8)) < (3 : Int32) then (
some (0 : Int32)) else (
some ((1 : Int32) <<< (x2_8 &&& 31))))) fun y_17 =>
lt1 (wI M_16 0 16 ((gI M_16 0 16) ||| y_17)) fun M_18 =>
chk (inb x2_8 4) <|
ob1 ((if (gI M_18 9 (ix x2_8)) = (3 : Int32) then (
some ((1 : Int32) <<< (x2_8 &&& 31))) else (
some (0 : Int32)))) fun y_19 =>
lt1 (wI M_18 0 17 ((gI M_18 0 17) ||| y_19)) fun M_20 =>
some M_20) else (
some M_11))) fun M_12 =>
chk (inb x2_8 4) <|
ob1 ((if (gI M_12 9 (ix x2_8)) < (3 : Int32) then (
some M_12) else (
ob1 (f_X11_timeOf x2_8 (0 : Int32) M_12) fun r_22 =>
ob1 (f_X11_timeOf x2_8 (1 : Int32) M_12) fun r_23 =>
ob1 (f_X11_velocityOf x2_8 (Int64.toInt32 r_22) (Int64.toInt32 r_23) M_12) fun r_24 =>
chk (inb x2_8 4) <|
lt1 (wJ M_12 12 (ix x2_8) (Int32.toInt64 r_24)) fun M_25 =>
chk (inb x2_8 4) <|
lt1 (wI M_25 13 (ix x2_8) (1 : Int32)) fun M_26 =>
some M_26))) fun M_21 =>
lt1 (x2_8 + (1 : Int32)) fun x2_27 =>
f_X11_worksOut_L36 x1 n x2_27 M_21))

def f_X11_worksOut_L248 (x2_30 : Int64) : Nat → Int32 → Mm → Option Mm
  | 0, _, _ => none
  | n + 1, x4_31, M_32 =>
(if (gI M_32 1 64) ≤ x4_31 then (
some M_32) else (
chk (inb x4_31 4) <|
ob1 ((if (gI M_32 13 (ix x4_31)) = (0 : Int32) then (
ob1 (f_X11_of x4_31 (7 : Int32) M_32) fun r_35 =>
(if r_35 = (-2000000005 : Int32) then (
some M_32) else (
ob1 (f_X11_of x4_31 (7 : Int32) M_32) fun r_36 =>
chk (inb x4_31 4) <|
lt1 (wJ M_32 12 (ix x4_31) ((x2_30 * (Int32.toInt64 r_36)) / (1000 : Int64))) fun M_37 =>
chk (inb x4_31 4) <|
lt1 (wI M_37 13 (ix x4_31) (1 : Int32)) fun M_38 =>
lt1 (wI M_38 0 18 ((gI M_38 0 18) ||| ((1 : Int32) <<< (x4_31 &&& 31)))) fun M_39 =>
some M_39))) else (
some M_32))) fun M_34 =>
lt1 (x4_31 + (1 : Int32)) fun x4_40 =>
f_X11_worksOut_L248 x2_30 n x4_40 M_34))

def f_X11_worksOut (x1 : Int32) (M : Mm) : Option (Int32 × Mm) :=
lt1 (wI M 0 15 (0 : Int32)) fun M_1 =>
lt1 (wI M_1 0 16 (0 : Int32)) fun M_2 =>
lt1 (wI M_2 0 17 (0 : Int32)) fun M_3 =>
lt1 (wI M_3 0 18 (0 : Int32)) fun M_4 =>
ob1 (f_X11_takeShifts M_4) fun M_5 =>
ob1 (f_X11_vote (0 : Int32) M_5) fun M_6 =>
ob1 (f_X11_vote (1 : Int32) M_6) fun M_7 =>
ob1 (f_X11_worksOut_L36 x1 1000 (0 : Int32) M_7) fun M_10 =>
(if (gI M_10 0 16) = (0 : Int32) then (
some ((0 : Int32), M_10)) else (
ob1 (f_X11_weighted M_10) fun r_28 =>
lt1 (wJ M_10 0 19 r_28) fun M_29 =>
lt1 ((gJ M_29 0 19)) fun x2_30 =>
ob1 (f_X11_worksOut_L248 x2_30 1000 (0 : Int32) M_29) fun M_33 =>
ob1 (f_X11_weighted M_33) fun r_41 =>
lt1 (wJ M_33 0 19 r_41) fun M_42 =>
some ((1 : Int32), M_42)))

set_option maxHeartbeats 4000000 in
set_option maxRecDepth 100000 in
theorem c_X11_worksOut (l : Launch) (D : va_G) (cA : Nat → ClassId) (ad : Nat → Nat) (M : Mm) (x1 : Int32) {r : Int32} {M' : Mm} (hr : f_X11_worksOut x1 M = some (r, M')) : Met l yX11_worksOut wsX11_worksOut ({ frames := 3, cells := 0, slots := 0, locals := 73 }) (PcX D false cA ad M [.ref (ad 0), .int x1]) (QiX false D false cA ad r M') 0 0 (AX false ad) := by
  refine Met.ofW (cc := cX11_worksOut) (maxL := 5) (ret := (some .boolean)) (by decide) rfl ?_
  intro p e s m args below meth c s₁ B hml hv
  obtain ⟨rfl, hP0, hK⟩ := hv
  have hx := B.exec
  have hb := B.bytes
  have hr0 := B.returns
  have hts := atoms_spec (ws := wsX11_worksOut) B.pre
  have hown : s.vm.findClass RX11 = some m.cls := findClass_of_methodNamed B.named
  have hlocks := B.notSynchronized
  have hW := xstart hP0
  have hi11 : ∀ w ∈ wsX110, w ∈ wsX11_worksOut := fun w h => List.mem_cons_of_mem _ (List.mem_append_right _ h)
  have hl := lv_entry ([.ref (ad 0), .int x1]) (n := 5) (Nat.le_of_ble_eq_true rfl)
  rw [lg_entry_eq]
  generalize (lg_sl ([.ref (ad 0), .int x1]) ++ List.replicate (5 - (lg_sl ([.ref (ad 0), .int x1])).length) Slot.unset).toArray = ls at hl ⊢
  have hl : lv_has ls 5 [(0, .ref (ad 0)), (1, .int x1)] := hl
  clear hP0
  unfold f_X11_worksOut at hr
  refine lv_aload_n hx hb dX11_worksOut_0 rfl (lv_at hl 0 rfl) ?_
  refine lv_iconst (v := (0 : Int32)) hx hb dX11_worksOut_1 (by decide) ?_
  obtain ⟨M_1, eM_1, hr⟩ := lt1_e hr
  refine p11_15 hx hb hts hi11 hown hK hW (k := 0) rfl (hts _ (wm 1 rfl)) dX11_worksOut_2 (fun H locs hW => ?_)
  rw [← eM_1] at hW
  refine lv_aload_n hx hb dX11_worksOut_5 rfl (lv_at hl 0 rfl) ?_
  refine lv_iconst (v := (0 : Int32)) hx hb dX11_worksOut_6 (by decide) ?_
  obtain ⟨M_2, eM_2, hr⟩ := lt1_e hr
  refine p11_16 hx hb hts hi11 hown hK hW (k := 0) rfl (hts _ (wm 2 rfl)) dX11_worksOut_7 (fun H locs hW => ?_)
  rw [← eM_2] at hW
  refine lv_aload_n hx hb dX11_worksOut_10 rfl (lv_at hl 0 rfl) ?_
  refine lv_iconst (v := (0 : Int32)) hx hb dX11_worksOut_11 (by decide) ?_
  obtain ⟨M_3, eM_3, hr⟩ := lt1_e hr
  refine p11_17 hx hb hts hi11 hown hK hW (k := 0) rfl (hts _ (wm 3 rfl)) dX11_worksOut_12 (fun H locs hW => ?_)
  rw [← eM_3] at hW
  refine lv_aload_n hx hb dX11_worksOut_15 rfl (lv_at hl 0 rfl) ?_
  refine lv_iconst (v := (0 : Int32)) hx hb dX11_worksOut_16 (by decide) ?_
  obtain ⟨M_4, eM_4, hr⟩ := lt1_e hr
  refine p11_18 hx hb hts hi11 hown hK hW (k := 0) rfl (hts _ (wm 4 rfl)) dX11_worksOut_17 (fun H locs hW => ?_)
  rw [← eM_4] at hW
  refine lv_aload_n hx hb dX11_worksOut_20 rfl (lv_at hl 0 rfl) ?_
  obtain ⟨M_5, hc21, hr⟩ := ob1_e hr
  refine xk_v (va_runV (As := []) (rest := []) ⟨hx, hb, hml, hown, hts⟩ (c_X11_takeShifts l D cA ad M_4 hc21) (cwV 0 hts gX11_worksOut_X11_takeShifts rfl rfl rfl (by decide +kernel) ⟨Nat.le_of_ble_eq_true rfl, Nat.le_of_ble_eq_true rfl⟩) (xpreV hK hW (k := 0) rfl (by decide) rfl) rfl rfl hl.1 rfl (lv_room (Nat.le_of_ble_eq_true rfl)) dX11_worksOut_21 ⟨Nat.le_of_ble_eq_true rfl, Nat.le_of_ble_eq_true rfl⟩) hW (fun H locs hW => ?_)
  refine lv_aload_n hx hb dX11_worksOut_24 rfl (lv_at hl 0 rfl) ?_
  refine lv_iconst (v := (0 : Int32)) hx hb dX11_worksOut_25 (by decide) ?_
  obtain ⟨M_6, hc26, hr⟩ := ob1_e hr
  refine xk_v (va_runV (As := [.int (0 : Int32)]) (rest := []) ⟨hx, hb, hml, hown, hts⟩ (c_X11_vote l D cA ad M_5 (0 : Int32) hc26) (cwV 1 hts gX11_worksOut_X11_vote rfl rfl rfl (by decide +kernel) ⟨Nat.le_of_ble_eq_true rfl, Nat.le_of_ble_eq_true rfl⟩) (xpreV hK hW (k := 0) rfl (by decide) rfl) rfl rfl hl.1 rfl (lv_room (Nat.le_of_ble_eq_true rfl)) dX11_worksOut_26 ⟨Nat.le_of_ble_eq_true rfl, Nat.le_of_ble_eq_true rfl⟩) hW (fun H locs hW => ?_)
  refine lv_aload_n hx hb dX11_worksOut_29 rfl (lv_at hl 0 rfl) ?_
  refine lv_iconst (v := (1 : Int32)) hx hb dX11_worksOut_30 (by decide) ?_
  obtain ⟨M_7, hc31, hr⟩ := ob1_e hr
  refine xk_v (va_runV (As := [.int (1 : Int32)]) (rest := []) ⟨hx, hb, hml, hown, hts⟩ (c_X11_vote l D cA ad M_6 (1 : Int32) hc31) (cwV 1 hts gX11_worksOut_X11_vote rfl rfl rfl (by decide +kernel) ⟨Nat.le_of_ble_eq_true rfl, Nat.le_of_ble_eq_true rfl⟩) (xpreV hK hW (k := 0) rfl (by decide) rfl) rfl rfl hl.1 rfl (lv_room (Nat.le_of_ble_eq_true rfl)) dX11_worksOut_31 ⟨Nat.le_of_ble_eq_true rfl, Nat.le_of_ble_eq_true rfl⟩) hW (fun H locs hW => ?_)
  refine lv_iconst (v := (0 : Int32)) hx hb dX11_worksOut_34 (by decide) ?_
  refine lv_istore_n (lv' := [(2, .int (0 : Int32)), (0, .ref (ad 0)), (1, .int x1)]) hx hb dX11_worksOut_35 rfl hl (by decide) rfl (fun ls hl => ?_)
  have hL36_1 : ∀ (n : Nat) (x2_8 : Int32) (M_9 : Mm) (H : Heap) (locs : List Loc) (ls : Array Slot) (M_10 : Mm), Xw D false cA ad M_9 (AX false ad) s.heap H locs → lv_has ls 5 [(0, .ref (ad 0)), (1, .int x1), (2, .int x2_8)] → f_X11_worksOut_L36 x1 n x2_8 M_9 = some M_10 → (∀ (H : Heap) (locs : List Loc) (ls : Array Slot), Xw D false cA ad M_10 (AX false ad) s.heap H locs → lv_has ls 5 [(0, .ref (ad 0))] → W p l e (headSpec wsX11_worksOut { frames := 3, cells := 0, slots := 0, locals := 73 }).room s m args below meth c H locs 0 0 (MQ below (QiX false D false cA ad r M') args s 0 0 (AX false ad)) (F0 m 223 ls [])) → W p l e (headSpec wsX11_worksOut { frames := 3, cells := 0, slots := 0, locals := 73 }).room s m args below meth c H locs 0 0 (MQ below (QiX false D false cA ad r M') args s 0 0 (AX false ad)) (F0 m 36 ls []) := by
    intro n
    induction n with
    | zero =>
      intro x2_8 M_9 H locs ls M_10 hW hl hr hk
      exact absurd hr (by simp [f_X11_worksOut_L36])
    | succ n ih =>
      intro x2_8 M_9 H locs ls M_10 hW hl hr hk
      rw [f_X11_worksOut_L36] at hr
      refine lv_iload_n hx hb dX11_worksOut_36 rfl (lv_at hl 2 rfl) ?_
      refine lv_aload_n hx hb dX11_worksOut_37 rfl (lv_at hl 0 rfl) ?_
      refine g11_0 hx hb hts hi11 hown hK hW (k := 0) rfl (hts _ (wm 5 rfl)) dX11_worksOut_38 ?_
      refine lv_bipush (v := (64 : Int32)) hx hb dX11_worksOut_41 (by decide) ?_
      refine xiald hx hb hK hW (k := 1) (t := 24) rfl (by decide) (by decide) rfl (n := 159) (by decide) (jx := 64) (by decide) dX11_worksOut_43 ?_
      refine lv_icmp_ge (tgt := 223) hx hb dX11_worksOut_44 (by decide) (fun c1 => ?_) (fun c1 => ?_)
      · have hr := br_p c1 hr
        have e1 := Option.some.inj hr
        subst e1
        exact hk _ _ _ hW (lv_sub hl [0] rfl)
      · have hr := br_n c1 hr
        refine lv_aload_n hx hb dX11_worksOut_47 rfl (lv_at hl 0 rfl) ?_
        refine g11_14 hx hb hts hi11 hown hK hW (k := 0) rfl (hts _ (wm 6 rfl)) dX11_worksOut_48 ?_
        refine lv_iload_n hx hb dX11_worksOut_51 rfl (lv_at hl 2 rfl) ?_
        refine lv_iconst (v := (0 : Int32)) hx hb dX11_worksOut_52 (by decide) ?_
        obtain ⟨hn53, hr⟩ := chk_e hr
        obtain ⟨M_11, eM_11, hr⟩ := lt1_e hr
        refine xzast hx hb hK hW (k := 13) (t := 30) rfl (by decide) (by decide) rfl (n := 4) hn53 (jx := (ix x2_8)) rfl (by decide) dX11_worksOut_53 (fun H locs hW => ?_)
        rw [← eM_11] at hW
        refine lv_aload_n hx hb dX11_worksOut_54 rfl (lv_at hl 0 rfl) ?_
        refine g11_10 hx hb hts hi11 hown hK hW (k := 0) rfl (hts _ (wm 7 rfl)) dX11_worksOut_55 ?_
        refine lv_iload_n hx hb dX11_worksOut_58 rfl (lv_at hl 2 rfl) ?_
        obtain ⟨hn59, hr⟩ := chk_e hr
        refine xiald hx hb hK hW (k := 9) (t := 20) rfl (by decide) (by decide) rfl (n := 4) hn59 (jx := (ix x2_8)) rfl dX11_worksOut_59 ?_
        refine lv_iconst (v := (4 : Int32)) hx hb dX11_worksOut_60 (by decide) ?_
        obtain ⟨M_12, hr, hr3⟩ := ob1_e hr
        have hj174_12 : ∀ (H : Heap) (locs : List Loc) (ls : Array Slot), Xw D false cA ad M_12 (AX false ad) s.heap H locs → lv_has ls 5 [(0, .ref (ad 0)), (1, .int x1), (2, .int x2_8)] → W p l e (headSpec wsX11_worksOut { frames := 3, cells := 0, slots := 0, locals := 73 }).room s m args below meth c H locs 0 0 (MQ below (QiX false D false cA ad r M') args s 0 0 (AX false ad)) (F0 m 174 ls []) := by
          intro H locs ls hW hl
          have hr := hr3
          refine lv_aload_n hx hb dX11_worksOut_174 rfl (lv_at hl 0 rfl) ?_
          refine g11_10 hx hb hts hi11 hown hK hW (k := 0) rfl (hts _ (wm 7 rfl)) dX11_worksOut_175 ?_
          refine lv_iload_n hx hb dX11_worksOut_178 rfl (lv_at hl 2 rfl) ?_
          obtain ⟨hn179, hr⟩ := chk_e hr
          refine xiald hx hb hK hW (k := 9) (t := 20) rfl (by decide) (by decide) rfl (n := 4) hn179 (jx := (ix x2_8)) rfl dX11_worksOut_179 ?_
          refine lv_iconst (v := (3 : Int32)) hx hb dX11_worksOut_180 (by decide) ?_
          obtain ⟨M_21, hr, hr3⟩ := ob1_e hr
          have hj217_21 : ∀ (H : Heap) (locs : List Loc) (ls : Array Slot), Xw D false cA ad M_21 (AX false ad) s.heap H locs → lv_has ls 5 [(0, .ref (ad 0)), (1, .int x1), (2, .int x2_8)] → W p l e (headSpec wsX11_worksOut { frames := 3, cells := 0, slots := 0, locals := 73 }).room s m args below meth c H locs 0 0 (MQ below (QiX false D false cA ad r M') args s 0 0 (AX false ad)) (F0 m 217 ls []) := by
            intro H locs ls hW hl
            have hr := hr3
            obtain ⟨x2_27, ex2_27, hr⟩ := lt1_e hr
            refine lv_iinc (v := x2_27) (lv' := [(2, .int x2_27), (0, .ref (ad 0)), (1, .int x1)]) hx hb dX11_worksOut_217 hl (k := 2) rfl (by rw [ex2_27]; rfl) (by decide) rfl (fun ls hl => ?_)
            refine lv_goto (tgt := 36) hx hb dX11_worksOut_220 (by decide) ?_
            exact ih x2_27 M_21 _ _ _ hW (lv_sub hl [1, 2, 0] rfl) _ hr hk
          clear hr3
          refine lv_icmp_lt (tgt := 217) hx hb dX11_worksOut_181 (by decide) (fun c1 => ?_) (fun c1 => ?_)
          · have hr := br_p c1 hr
            have e1 := Option.some.inj hr
            subst e1
            exact hj217_21 _ _ _ hW (lv_sub hl [0, 1, 2] rfl)
          · have hr := br_n c1 hr
            refine lv_aload_n hx hb dX11_worksOut_184 rfl (lv_at hl 0 rfl) ?_
            refine g11_13 hx hb hts hi11 hown hK hW (k := 0) rfl (hts _ (wm 9 rfl)) dX11_worksOut_185 ?_
            refine lv_iload_n hx hb dX11_worksOut_188 rfl (lv_at hl 2 rfl) ?_
            refine lv_aload_n hx hb dX11_worksOut_189 rfl (lv_at hl 0 rfl) ?_
            refine lv_iload_n hx hb dX11_worksOut_190 rfl (lv_at hl 2 rfl) ?_
            refine lv_aload_n hx hb dX11_worksOut_191 rfl (lv_at hl 0 rfl) ?_
            refine lv_iload_n hx hb dX11_worksOut_192 rfl (lv_at hl 2 rfl) ?_
            refine lv_iconst (v := (0 : Int32)) hx hb dX11_worksOut_193 (by decide) ?_
            obtain ⟨r_22, hc194, hr⟩ := ob1_e hr
            refine xk_l (va_runV (As := [.int x2_8, .int (0 : Int32)]) (rest := [.int x2_8, .ref (ad 0), .int x2_8, .ref (ad 12)]) ⟨hx, hb, hml, hown, hts⟩ (c_X11_timeOf l D cA ad M_12 x2_8 (0 : Int32) hc194) (cwV 2 hts gX11_worksOut_X11_timeOf rfl rfl rfl (by decide +kernel) ⟨Nat.le_of_ble_eq_true rfl, Nat.le_of_ble_eq_true rfl⟩) (xpreV hK hW (k := 0) rfl (by decide) rfl) rfl rfl hl.1 rfl (lv_room (Nat.le_of_ble_eq_true rfl)) dX11_worksOut_194 ⟨Nat.le_of_ble_eq_true rfl, Nat.le_of_ble_eq_true rfl⟩) hW (fun H locs hW => ?_)
            refine lv_l2i hx hb dX11_worksOut_197 rfl ?_
            refine lv_aload_n hx hb dX11_worksOut_198 rfl (lv_at hl 0 rfl) ?_
            refine lv_iload_n hx hb dX11_worksOut_199 rfl (lv_at hl 2 rfl) ?_
            refine lv_iconst (v := (1 : Int32)) hx hb dX11_worksOut_200 (by decide) ?_
            obtain ⟨r_23, hc201, hr⟩ := ob1_e hr
            refine xk_l (va_runV (As := [.int x2_8, .int (1 : Int32)]) (rest := [.int (Int64.toInt32 r_22), .int x2_8, .ref (ad 0), .int x2_8, .ref (ad 12)]) ⟨hx, hb, hml, hown, hts⟩ (c_X11_timeOf l D cA ad M_12 x2_8 (1 : Int32) hc201) (cwV 2 hts gX11_worksOut_X11_timeOf rfl rfl rfl (by decide +kernel) ⟨Nat.le_of_ble_eq_true rfl, Nat.le_of_ble_eq_true rfl⟩) (xpreV hK hW (k := 0) rfl (by decide) rfl) rfl rfl hl.1 rfl (lv_room (Nat.le_of_ble_eq_true rfl)) dX11_worksOut_201 ⟨Nat.le_of_ble_eq_true rfl, Nat.le_of_ble_eq_true rfl⟩) hW (fun H locs hW => ?_)
            refine lv_l2i hx hb dX11_worksOut_204 rfl ?_
            obtain ⟨r_24, hc205, hr⟩ := ob1_e hr
            refine xk_i (va_runV (As := [.int x2_8, .int (Int64.toInt32 r_22), .int (Int64.toInt32 r_23)]) (rest := [.int x2_8, .ref (ad 12)]) ⟨hx, hb, hml, hown, hts⟩ (c_X11_velocityOf l D cA ad M_12 x2_8 (Int64.toInt32 r_22) (Int64.toInt32 r_23) hc205) (cwV 3 hts gX11_worksOut_X11_velocityOf rfl rfl rfl (by decide +kernel) ⟨Nat.le_of_ble_eq_true rfl, Nat.le_of_ble_eq_true rfl⟩) (xpreV hK hW (k := 0) rfl (by decide) rfl) rfl rfl hl.1 rfl (lv_room (Nat.le_of_ble_eq_true rfl)) dX11_worksOut_205 ⟨Nat.le_of_ble_eq_true rfl, Nat.le_of_ble_eq_true rfl⟩) hW (fun H locs hW => ?_)
            refine lv_i2l hx hb dX11_worksOut_208 rfl ?_
            obtain ⟨hn209, hr⟩ := chk_e hr
            obtain ⟨M_25, eM_25, hr⟩ := lt1_e hr
            refine xlast hx hb hK hW (k := 12) (t := 43) rfl (by decide) (by decide) rfl (n := 4) hn209 (jx := (ix x2_8)) rfl dX11_worksOut_209 (fun H locs hW => ?_)
            rw [← eM_25] at hW
            refine lv_aload_n hx hb dX11_worksOut_210 rfl (lv_at hl 0 rfl) ?_
            refine g11_14 hx hb hts hi11 hown hK hW (k := 0) rfl (hts _ (wm 6 rfl)) dX11_worksOut_211 ?_
            refine lv_iload_n hx hb dX11_worksOut_214 rfl (lv_at hl 2 rfl) ?_
            refine lv_iconst (v := (1 : Int32)) hx hb dX11_worksOut_215 (by decide) ?_
            obtain ⟨hn216, hr⟩ := chk_e hr
            obtain ⟨M_26, eM_26, hr⟩ := lt1_e hr
            refine xzast hx hb hK hW (k := 13) (t := 30) rfl (by decide) (by decide) rfl (n := 4) hn216 (jx := (ix x2_8)) rfl (by decide) dX11_worksOut_216 (fun H locs hW => ?_)
            rw [← eM_26] at hW
            have e1 := Option.some.inj hr
            subst e1
            exact hj217_21 _ _ _ hW (lv_sub hl [0, 1, 2] rfl)
        clear hr3
        refine lv_icmp_ne (tgt := 174) hx hb dX11_worksOut_61 (by decide) (fun c1 => ?_) (fun c1 => ?_)
        · have hr := br_n c1 hr
          have e1 := Option.some.inj hr
          subst e1
          exact hj174_12 _ _ _ hW (lv_sub hl [0, 1, 2] rfl)
        · have hr := br_p c1 hr
          refine lv_aload_n hx hb dX11_worksOut_64 rfl (lv_at hl 0 rfl) ?_
          refine g11_11 hx hb hts hi11 hown hK hW (k := 0) rfl (hts _ (wm 8 rfl)) dX11_worksOut_65 ?_
          refine lv_iconst (v := (2 : Int32)) hx hb dX11_worksOut_68 (by decide) ?_
          refine lv_iload_n hx hb dX11_worksOut_69 rfl (lv_at hl 2 rfl) ?_
          refine lv_imul hx hb dX11_worksOut_70 ?_
          obtain ⟨hn71, hr⟩ := chk_e hr
          refine xiald hx hb hK hW (k := 10) (t := 27) rfl (by decide) (by decide) rfl (n := 8) hn71 (jx := (ix ((2 : Int32) * x2_8))) rfl dX11_worksOut_71 ?_
          obtain ⟨y_13, hr, hr3⟩ := ob1_e hr
          have hj93_13 : ∀ (H : Heap) (locs : List Loc) (ls : Array Slot), Xw D false cA ad M_11 (AX false ad) s.heap H locs → lv_has ls 5 [(0, .ref (ad 0)), (1, .int x1), (2, .int x2_8)] → W p l e (headSpec wsX11_worksOut { frames := 3, cells := 0, slots := 0, locals := 73 }).room s m args below meth c H locs 0 0 (MQ below (QiX false D false cA ad r M') args s 0 0 (AX false ad)) (F0 m 93 ls [.int y_13]) := by
            intro H locs ls hW hl
            have hr := hr3
            refine lv_istore_n (lv' := [(3, .int y_13), (0, .ref (ad 0)), (1, .int x1), (2, .int x2_8)]) hx hb dX11_worksOut_93 rfl hl (by decide) rfl (fun ls hl => ?_)
            refine lv_aload_n hx hb dX11_worksOut_94 rfl (lv_at hl 1 rfl) ?_
            refine g11_10 hx hb hts hi11 hown hK hW (k := 0) rfl (hts _ (wm 7 rfl)) dX11_worksOut_95 ?_
            refine lv_iload_n hx hb dX11_worksOut_98 rfl (lv_at hl 3 rfl) ?_
            refine lv_aload_n hx hb dX11_worksOut_99 rfl (lv_at hl 1 rfl) ?_
            refine lv_iload_n hx hb dX11_worksOut_100 rfl (lv_at hl 3 rfl) ?_
            refine lv_iload_n hx hb dX11_worksOut_101 rfl (lv_at hl 2 rfl) ?_
            obtain ⟨r_14, hc102, hr⟩ := ob1_e hr
            refine xk_i (va_runV (As := [.int x2_8, .int x1]) (rest := [.int x2_8, .ref (ad 9)]) ⟨hx, hb, hml, hown, hts⟩ (c_X11_isOff l D cA ad M_11 x2_8 x1 hc102) (cwV 2 hts gX11_worksOut_X11_isOff rfl rfl rfl (by decide +kernel) ⟨Nat.le_of_ble_eq_true rfl, Nat.le_of_ble_eq_true rfl⟩) (xpreV hK hW (k := 0) rfl (by decide) rfl) rfl rfl hl.1 rfl (lv_room (Nat.le_of_ble_eq_true rfl)) dX11_worksOut_102 ⟨Nat.le_of_ble_eq_true rfl, Nat.le_of_ble_eq_true rfl⟩) hW (fun H locs hW => ?_)
            obtain ⟨y_15, hr, hr3⟩ := ob1_e hr
            have hj121_15 : ∀ (H : Heap) (locs : List Loc) (ls : Array Slot), Xw D false cA ad M_11 (AX false ad) s.heap H locs → lv_has ls 5 [(0, .ref (ad 0)), (1, .int x1), (2, .int x2_8)] → W p l e (headSpec wsX11_worksOut { frames := 3, cells := 0, slots := 0, locals := 73 }).room s m args below meth c H locs 0 0 (MQ below (QiX false D false cA ad r M') args s 0 0 (AX false ad)) (F0 m 121 ls [.int y_15, .int x2_8, .ref (ad 9)]) := by
              intro H locs ls hW hl
              have hr := hr3
              obtain ⟨hn121, hr⟩ := chk_e hr
              obtain ⟨M_16, eM_16, hr⟩ := lt1_e hr
              refine xiast hx hb hK hW (k := 9) (t := 20) rfl (by decide) (by decide) rfl (n := 4) hn121 (jx := (ix x2_8)) rfl dX11_worksOut_121 (fun H locs hW => ?_)
              rw [← eM_16] at hW
              refine lv_aload_n hx hb dX11_worksOut_122 rfl (lv_at hl 0 rfl) ?_
              refine lv_dup hx hb dX11_worksOut_123 rfl ?_
              refine g11_16 hx hb hts hi11 hown hK hW (k := 0) rfl (hts _ (wm 2 rfl)) dX11_worksOut_124 ?_
              refine lv_aload_n hx hb dX11_worksOut_127 rfl (lv_at hl 0 rfl) ?_
              refine g11_10 hx hb hts hi11 hown hK hW (k := 0) rfl (hts _ (wm 7 rfl)) dX11_worksOut_128 ?_
              refine lv_iload_n hx hb dX11_worksOut_131 rfl (lv_at hl 2 rfl) ?_
              obtain ⟨hn132, hr⟩ := chk_e hr
              refine xiald hx hb hK hW (k := 9) (t := 20) rfl (by decide) (by decide) rfl (n := 4) hn132 (jx := (ix x2_8)) rfl dX11_worksOut_132 ?_
              refine lv_iconst (v := (3 : Int32)) hx hb dX11_worksOut_133 (by decide) ?_
              obtain ⟨y_17, hr, hr3⟩ := ob1_e hr
              have hj144_17 : ∀ (H : Heap) (locs : List Loc) (ls : Array Slot), Xw D false cA ad M_16 (AX false ad) s.heap H locs → lv_has ls 5 [(0, .ref (ad 0)), (1, .int x1), (2, .int x2_8)] → W p l e (headSpec wsX11_worksOut { frames := 3, cells := 0, slots := 0, locals := 73 }).room s m args below meth c H locs 0 0 (MQ below (QiX false D false cA ad r M') args s 0 0 (AX false ad)) (F0 m 144 ls [.int y_17, .int (gI M_16 0 16), .ref (ad 0)]) := by
                intro H locs ls hW hl
                have hr := hr3
                refine lv_ior hx hb dX11_worksOut_144 ?_
                obtain ⟨M_18, eM_18, hr⟩ := lt1_e hr
                refine p11_16 hx hb hts hi11 hown hK hW (k := 0) rfl (hts _ (wm 2 rfl)) dX11_worksOut_145 (fun H locs hW => ?_)
                rw [← eM_18] at hW
                refine lv_aload_n hx hb dX11_worksOut_148 rfl (lv_at hl 0 rfl) ?_
                refine lv_dup hx hb dX11_worksOut_149 rfl ?_
                refine g11_17 hx hb hts hi11 hown hK hW (k := 0) rfl (hts _ (wm 3 rfl)) dX11_worksOut_150 ?_
                refine lv_aload_n hx hb dX11_worksOut_153 rfl (lv_at hl 0 rfl) ?_
                refine g11_10 hx hb hts hi11 hown hK hW (k := 0) rfl (hts _ (wm 7 rfl)) dX11_worksOut_154 ?_
                refine lv_iload_n hx hb dX11_worksOut_157 rfl (lv_at hl 2 rfl) ?_
                obtain ⟨hn158, hr⟩ := chk_e hr
                refine xiald hx hb hK hW (k := 9) (t := 20) rfl (by decide) (by decide) rfl (n := 4) hn158 (jx := (ix x2_8)) rfl dX11_worksOut_158 ?_
                refine lv_iconst (v := (3 : Int32)) hx hb dX11_worksOut_159 (by decide) ?_
                obtain ⟨y_19, hr, hr3⟩ := ob1_e hr
                have hj170_19 : ∀ (H : Heap) (locs : List Loc) (ls : Array Slot), Xw D false cA ad M_18 (AX false ad) s.heap H locs → lv_has ls 5 [(0, .ref (ad 0)), (1, .int x1), (2, .int x2_8)] → W p l e (headSpec wsX11_worksOut { frames := 3, cells := 0, slots := 0, locals := 73 }).room s m args below meth c H locs 0 0 (MQ below (QiX false D false cA ad r M') args s 0 0 (AX false ad)) (F0 m 170 ls [.int y_19, .int (gI M_18 0 17), .ref (ad 0)]) := by
                  intro H locs ls hW hl
                  have hr := hr3
                  refine lv_ior hx hb dX11_worksOut_170 ?_
                  obtain ⟨M_20, eM_20, hr⟩ := lt1_e hr
                  refine p11_17 hx hb hts hi11 hown hK hW (k := 0) rfl (hts _ (wm 3 rfl)) dX11_worksOut_171 (fun H locs hW => ?_)
                  rw [← eM_20] at hW
                  have e1 := Option.some.inj hr
                  subst e1
                  exact hj174_12 _ _ _ hW (lv_sub hl [0, 1, 2] rfl)
                clear hr3
                refine lv_icmp_ne (tgt := 169) hx hb dX11_worksOut_160 (by decide) (fun c1 => ?_) (fun c1 => ?_)
                · have hr := br_n c1 hr
                  refine lv_iconst (v := (0 : Int32)) hx hb dX11_worksOut_169 (by decide) ?_
                  have e1 := Option.some.inj hr
                  subst e1
                  exact hj170_19 _ _ _ hW (lv_sub hl [0, 1, 2] rfl)
                · have hr := br_p c1 hr
                  refine lv_iconst (v := (1 : Int32)) hx hb dX11_worksOut_163 (by decide) ?_
                  refine lv_iload_n hx hb dX11_worksOut_164 rfl (lv_at hl 2 rfl) ?_
                  refine lv_ishl hx hb dX11_worksOut_165 ?_
                  refine lv_goto (tgt := 170) hx hb dX11_worksOut_166 (by decide) ?_
                  have e1 := Option.some.inj hr
                  subst e1
                  exact hj170_19 _ _ _ hW (lv_sub hl [0, 1, 2] rfl)
              clear hr3
              refine lv_icmp_lt (tgt := 143) hx hb dX11_worksOut_134 (by decide) (fun c1 => ?_) (fun c1 => ?_)
              · have hr := br_p c1 hr
                refine lv_iconst (v := (0 : Int32)) hx hb dX11_worksOut_143 (by decide) ?_
                have e1 := Option.some.inj hr
                subst e1
                exact hj144_17 _ _ _ hW (lv_sub hl [0, 1, 2] rfl)
              · have hr := br_n c1 hr
                refine lv_iconst (v := (1 : Int32)) hx hb dX11_worksOut_137 (by decide) ?_
                refine lv_iload_n hx hb dX11_worksOut_138 rfl (lv_at hl 2 rfl) ?_
                refine lv_ishl hx hb dX11_worksOut_139 ?_
                refine lv_goto (tgt := 144) hx hb dX11_worksOut_140 (by decide) ?_
                have e1 := Option.some.inj hr
                subst e1
                exact hj144_17 _ _ _ hW (lv_sub hl [0, 1, 2] rfl)
            clear hr3
            refine lv_if_eq (tgt := 112) hx hb dX11_worksOut_105 (by decide) (fun c1 => ?_) (fun c1 => ?_)
            · have hr := br_p c1 hr
              refine lv_iload_n hx hb dX11_worksOut_112 rfl (lv_at hl 0 rfl) ?_
              refine lv_if_eq (tgt := 120) hx hb dX11_worksOut_113 (by decide) (fun c1 => ?_) (fun c1 => ?_)
              · have hr := br_p c1 hr
                refine lv_iconst (v := (4 : Int32)) hx hb dX11_worksOut_120 (by decide) ?_
                have e1 := Option.some.inj hr
                subst e1
                exact hj121_15 _ _ _ hW (lv_sub hl [1, 2, 3] rfl)
              · have hr := br_n c1 hr
                refine lv_iconst (v := (3 : Int32)) hx hb dX11_worksOut_116 (by decide) ?_
                refine lv_goto (tgt := 121) hx hb dX11_worksOut_117 (by decide) ?_
                have e1 := Option.some.inj hr
                subst e1
                exact hj121_15 _ _ _ hW (lv_sub hl [1, 2, 3] rfl)
            · have hr := br_n c1 hr
              refine lv_iconst (v := (2 : Int32)) hx hb dX11_worksOut_108 (by decide) ?_
              refine lv_goto (tgt := 121) hx hb dX11_worksOut_109 (by decide) ?_
              have e1 := Option.some.inj hr
              subst e1
              exact hj121_15 _ _ _ hW (lv_sub hl [1, 2, 3] rfl)
          clear hr3
          refine lv_if_ne (tgt := 88) hx hb dX11_worksOut_72 (by decide) (fun c1 => ?_) (fun c1 => ?_)
          · have hr := br_n c1 hr
            refine lv_iconst (v := (1 : Int32)) hx hb dX11_worksOut_88 (by decide) ?_
            refine lv_goto (tgt := 93) hx hb dX11_worksOut_89 (by decide) ?_
            have e1 := Option.some.inj hr
            subst e1
            exact hj93_13 _ _ _ hW (lv_sub hl [0, 1, 2] rfl)
          · have hr := br_p c1 hr
            refine lv_aload_n hx hb dX11_worksOut_75 rfl (lv_at hl 0 rfl) ?_
            refine g11_11 hx hb hts hi11 hown hK hW (k := 0) rfl (hts _ (wm 8 rfl)) dX11_worksOut_76 ?_
            refine lv_iconst (v := (2 : Int32)) hx hb dX11_worksOut_79 (by decide) ?_
            refine lv_iload_n hx hb dX11_worksOut_80 rfl (lv_at hl 2 rfl) ?_
            refine lv_imul hx hb dX11_worksOut_81 ?_
            refine lv_iconst (v := (1 : Int32)) hx hb dX11_worksOut_82 (by decide) ?_
            refine lv_iadd hx hb dX11_worksOut_83 ?_
            obtain ⟨hn84, hr⟩ := chk_e hr
            refine xiald hx hb hK hW (k := 10) (t := 27) rfl (by decide) (by decide) rfl (n := 8) hn84 (jx := (ix (((2 : Int32) * x2_8) + (1 : Int32)))) rfl dX11_worksOut_84 ?_
            refine lv_if_eq (tgt := 92) hx hb dX11_worksOut_85 (by decide) (fun c1 => ?_) (fun c1 => ?_)
            · have hr := br_p c1 hr
              refine lv_iconst (v := (0 : Int32)) hx hb dX11_worksOut_92 (by decide) ?_
              have e1 := Option.some.inj hr
              subst e1
              exact hj93_13 _ _ _ hW (lv_sub hl [0, 1, 2] rfl)
            · have hr := br_n c1 hr
              refine lv_iconst (v := (1 : Int32)) hx hb dX11_worksOut_88 (by decide) ?_
              refine lv_goto (tgt := 93) hx hb dX11_worksOut_89 (by decide) ?_
              have e1 := Option.some.inj hr
              subst e1
              exact hj93_13 _ _ _ hW (lv_sub hl [0, 1, 2] rfl)
  obtain ⟨M_10, hr, hr3⟩ := ob1_e hr
  refine hL36_1 1000 (0 : Int32) M_7 _ _ _ M_10 hW (lv_sub hl [1, 2, 0] rfl) hr (fun H locs ls hW hl => ?_)
  clear hr
  have hr := hr3
  refine lv_aload_n hx hb dX11_worksOut_223 rfl (lv_at hl 0 rfl) ?_
  refine g11_16 hx hb hts hi11 hown hK hW (k := 0) rfl (hts _ (wm 2 rfl)) dX11_worksOut_224 ?_
  refine lv_if_ne (tgt := 232) hx hb dX11_worksOut_227 (by decide) (fun c1 => ?_) (fun c1 => ?_)
  · have hr := br_n c1 hr
    refine lv_aload_n hx hb dX11_worksOut_232 rfl (lv_at hl 0 rfl) ?_
    refine lv_aload_n hx hb dX11_worksOut_233 rfl (lv_at hl 0 rfl) ?_
    obtain ⟨r_28, hc234, hr⟩ := ob1_e hr
    refine xk_l (va_runV (As := []) (rest := [.ref (ad 0)]) ⟨hx, hb, hml, hown, hts⟩ (c_X11_weighted l D cA ad M_10 hc234) (cwV 0 hts gX11_worksOut_X11_weighted rfl rfl rfl (by decide +kernel) ⟨Nat.le_of_ble_eq_true rfl, Nat.le_of_ble_eq_true rfl⟩) (xpreV hK hW (k := 0) rfl (by decide) rfl) rfl rfl hl.1 rfl (lv_room (Nat.le_of_ble_eq_true rfl)) dX11_worksOut_234 ⟨Nat.le_of_ble_eq_true rfl, Nat.le_of_ble_eq_true rfl⟩) hW (fun H locs hW => ?_)
    obtain ⟨M_29, eM_29, hr⟩ := lt1_e hr
    refine p11_19 hx hb hts hi11 hown hK hW (k := 0) rfl (hts _ (wm 10 rfl)) dX11_worksOut_237 (fun H locs hW => ?_)
    rw [← eM_29] at hW
    refine lv_aload_n hx hb dX11_worksOut_240 rfl (lv_at hl 0 rfl) ?_
    refine g11_19 hx hb hts hi11 hown hK hW (k := 0) rfl (hts _ (wm 10 rfl)) dX11_worksOut_241 ?_
    obtain ⟨x2_30, ex2_30, hr⟩ := lt1_e hr
    rw [← ex2_30]
    refine lv_lstore_n (lv' := [(2, .long x2_30), (0, .ref (ad 0))]) hx hb dX11_worksOut_244 rfl hl (by decide) rfl (fun ls hl => ?_)
    refine lv_iconst (v := (0 : Int32)) hx hb dX11_worksOut_245 (by decide) ?_
    refine lv_istore (lv' := [(4, .int (0 : Int32)), (2, .long x2_30), (0, .ref (ad 0))]) hx hb dX11_worksOut_246 hl (by decide) rfl (fun ls hl => ?_)
    have hL248_2 : ∀ (n : Nat) (x4_31 : Int32) (M_32 : Mm) (H : Heap) (locs : List Loc) (ls : Array Slot) (M_33 : Mm), Xw D false cA ad M_32 (AX false ad) s.heap H locs → lv_has ls 5 [(2, .long x2_30), (0, .ref (ad 0)), (4, .int x4_31)] → f_X11_worksOut_L248 x2_30 n x4_31 M_32 = some M_33 → (∀ (H : Heap) (locs : List Loc) (ls : Array Slot), Xw D false cA ad M_33 (AX false ad) s.heap H locs → lv_has ls 5 [(0, .ref (ad 0))] → W p l e (headSpec wsX11_worksOut { frames := 3, cells := 0, slots := 0, locals := 73 }).room s m args below meth c H locs 0 0 (MQ below (QiX false D false cA ad r M') args s 0 0 (AX false ad)) (F0 m 332 ls [])) → W p l e (headSpec wsX11_worksOut { frames := 3, cells := 0, slots := 0, locals := 73 }).room s m args below meth c H locs 0 0 (MQ below (QiX false D false cA ad r M') args s 0 0 (AX false ad)) (F0 m 248 ls []) := by
      intro n
      induction n with
      | zero =>
        intro x4_31 M_32 H locs ls M_33 hW hl hr hk
        exact absurd hr (by simp [f_X11_worksOut_L248])
      | succ n ih =>
        intro x4_31 M_32 H locs ls M_33 hW hl hr hk
        rw [f_X11_worksOut_L248] at hr
        refine lv_iload hx hb dX11_worksOut_248 (lv_at hl 2 rfl) ?_
        refine lv_aload_n hx hb dX11_worksOut_250 rfl (lv_at hl 1 rfl) ?_
        refine g11_0 hx hb hts hi11 hown hK hW (k := 0) rfl (hts _ (wm 5 rfl)) dX11_worksOut_251 ?_
        refine lv_bipush (v := (64 : Int32)) hx hb dX11_worksOut_254 (by decide) ?_
        refine xiald hx hb hK hW (k := 1) (t := 24) rfl (by decide) (by decide) rfl (n := 159) (by decide) (jx := 64) (by decide) dX11_worksOut_256 ?_
        refine lv_icmp_ge (tgt := 332) hx hb dX11_worksOut_257 (by decide) (fun c1 => ?_) (fun c1 => ?_)
        · have hr := br_p c1 hr
          have e1 := Option.some.inj hr
          subst e1
          exact hk _ _ _ hW (lv_sub hl [1] rfl)
        · have hr := br_n c1 hr
          refine lv_aload_n hx hb dX11_worksOut_260 rfl (lv_at hl 1 rfl) ?_
          refine g11_14 hx hb hts hi11 hown hK hW (k := 0) rfl (hts _ (wm 6 rfl)) dX11_worksOut_261 ?_
          refine lv_iload hx hb dX11_worksOut_264 (lv_at hl 2 rfl) ?_
          obtain ⟨hn266, hr⟩ := chk_e hr
          refine xzald hx hb hK hW (k := 13) (t := 30) rfl (by decide) (by decide) rfl (n := 4) hn266 (jx := (ix x4_31)) rfl dX11_worksOut_266 ?_
          obtain ⟨M_34, hr, hr3⟩ := ob1_e hr
          have hj326_34 : ∀ (H : Heap) (locs : List Loc) (ls : Array Slot), Xw D false cA ad M_34 (AX false ad) s.heap H locs → lv_has ls 5 [(2, .long x2_30), (0, .ref (ad 0)), (4, .int x4_31)] → W p l e (headSpec wsX11_worksOut { frames := 3, cells := 0, slots := 0, locals := 73 }).room s m args below meth c H locs 0 0 (MQ below (QiX false D false cA ad r M') args s 0 0 (AX false ad)) (F0 m 326 ls []) := by
            intro H locs ls hW hl
            have hr := hr3
            obtain ⟨x4_40, ex4_40, hr⟩ := lt1_e hr
            refine lv_iinc (v := x4_40) (lv' := [(4, .int x4_40), (2, .long x2_30), (0, .ref (ad 0))]) hx hb dX11_worksOut_326 hl (k := 2) rfl (by rw [ex4_40]; rfl) (by decide) rfl (fun ls hl => ?_)
            refine lv_goto (tgt := 248) hx hb dX11_worksOut_329 (by decide) ?_
            exact ih x4_40 M_34 _ _ _ hW (lv_sub hl [1, 2, 0] rfl) _ hr hk
          clear hr3
          refine lv_if_ne (tgt := 326) hx hb dX11_worksOut_267 (by decide) (fun c1 => ?_) (fun c1 => ?_)
          · have hr := br_n c1 hr
            have e1 := Option.some.inj hr
            subst e1
            exact hj326_34 _ _ _ hW (lv_sub hl [0, 1, 2] rfl)
          · have hr := br_p c1 hr
            refine lv_aload_n hx hb dX11_worksOut_270 rfl (lv_at hl 1 rfl) ?_
            refine lv_iload hx hb dX11_worksOut_271 (lv_at hl 2 rfl) ?_
            refine lv_bipush (v := (7 : Int32)) hx hb dX11_worksOut_273 (by decide) ?_
            obtain ⟨r_35, hc275, hr⟩ := ob1_e hr
            refine xk_i (va_runV (As := [.int x4_31, .int (7 : Int32)]) (rest := []) ⟨hx, hb, hml, hown, hts⟩ (c_X11_of l D cA ad M_32 x4_31 (7 : Int32) hc275) (cwV 2 hts gX11_worksOut_X11_of rfl rfl rfl (by decide +kernel) ⟨Nat.le_of_ble_eq_true rfl, Nat.le_of_ble_eq_true rfl⟩) (xpreV hK hW (k := 0) rfl (by decide) rfl) rfl rfl hl.1 rfl (lv_room (Nat.le_of_ble_eq_true rfl)) dX11_worksOut_275 ⟨Nat.le_of_ble_eq_true rfl, Nat.le_of_ble_eq_true rfl⟩) hW (fun H locs hW => ?_)
            refine lv_ldc (v := (-2000000005 : Int32)) hx hb hown (hts _ (wm 11 rfl)) dX11_worksOut_278 ?_
            refine lv_icmp_eq (tgt := 326) hx hb dX11_worksOut_280 (by decide) (fun c1 => ?_) (fun c1 => ?_)
            · have hr := br_p c1 hr
              have e1 := Option.some.inj hr
              subst e1
              exact hj326_34 _ _ _ hW (lv_sub hl [0, 1, 2] rfl)
            · have hr := br_n c1 hr
              refine lv_aload_n hx hb dX11_worksOut_283 rfl (lv_at hl 1 rfl) ?_
              refine g11_13 hx hb hts hi11 hown hK hW (k := 0) rfl (hts _ (wm 9 rfl)) dX11_worksOut_284 ?_
              refine lv_iload hx hb dX11_worksOut_287 (lv_at hl 2 rfl) ?_
              refine lv_lload_n hx hb dX11_worksOut_289 rfl (lv_at hl 0 rfl) ?_
              refine lv_aload_n hx hb dX11_worksOut_290 rfl (lv_at hl 1 rfl) ?_
              refine lv_iload hx hb dX11_worksOut_291 (lv_at hl 2 rfl) ?_
              refine lv_bipush (v := (7 : Int32)) hx hb dX11_worksOut_293 (by decide) ?_
              obtain ⟨r_36, hc295, hr⟩ := ob1_e hr
              refine xk_i (va_runV (As := [.int x4_31, .int (7 : Int32)]) (rest := [.long x2_30, .int x4_31, .ref (ad 12)]) ⟨hx, hb, hml, hown, hts⟩ (c_X11_of l D cA ad M_32 x4_31 (7 : Int32) hc295) (cwV 2 hts gX11_worksOut_X11_of rfl rfl rfl (by decide +kernel) ⟨Nat.le_of_ble_eq_true rfl, Nat.le_of_ble_eq_true rfl⟩) (xpreV hK hW (k := 0) rfl (by decide) rfl) rfl rfl hl.1 rfl (lv_room (Nat.le_of_ble_eq_true rfl)) dX11_worksOut_295 ⟨Nat.le_of_ble_eq_true rfl, Nat.le_of_ble_eq_true rfl⟩) hW (fun H locs hW => ?_)
              refine lv_i2l hx hb dX11_worksOut_298 rfl ?_
              refine lv_lmul hx hb dX11_worksOut_299 ?_
              refine lv_ldc2 (v := (1000 : Int64)) hx hb hown (hts _ (wm 12 rfl)) dX11_worksOut_300 ?_
              refine lv_ldiv hx hb dX11_worksOut_303 (by decide) ?_
              obtain ⟨hn304, hr⟩ := chk_e hr
              obtain ⟨M_37, eM_37, hr⟩ := lt1_e hr
              refine xlast hx hb hK hW (k := 12) (t := 43) rfl (by decide) (by decide) rfl (n := 4) hn304 (jx := (ix x4_31)) rfl dX11_worksOut_304 (fun H locs hW => ?_)
              rw [← eM_37] at hW
              refine lv_aload_n hx hb dX11_worksOut_305 rfl (lv_at hl 1 rfl) ?_
              refine g11_14 hx hb hts hi11 hown hK hW (k := 0) rfl (hts _ (wm 6 rfl)) dX11_worksOut_306 ?_
              refine lv_iload hx hb dX11_worksOut_309 (lv_at hl 2 rfl) ?_
              refine lv_iconst (v := (1 : Int32)) hx hb dX11_worksOut_311 (by decide) ?_
              obtain ⟨hn312, hr⟩ := chk_e hr
              obtain ⟨M_38, eM_38, hr⟩ := lt1_e hr
              refine xzast hx hb hK hW (k := 13) (t := 30) rfl (by decide) (by decide) rfl (n := 4) hn312 (jx := (ix x4_31)) rfl (by decide) dX11_worksOut_312 (fun H locs hW => ?_)
              rw [← eM_38] at hW
              refine lv_aload_n hx hb dX11_worksOut_313 rfl (lv_at hl 1 rfl) ?_
              refine lv_dup hx hb dX11_worksOut_314 rfl ?_
              refine g11_18 hx hb hts hi11 hown hK hW (k := 0) rfl (hts _ (wm 4 rfl)) dX11_worksOut_315 ?_
              refine lv_iconst (v := (1 : Int32)) hx hb dX11_worksOut_318 (by decide) ?_
              refine lv_iload hx hb dX11_worksOut_319 (lv_at hl 2 rfl) ?_
              refine lv_ishl hx hb dX11_worksOut_321 ?_
              refine lv_ior hx hb dX11_worksOut_322 ?_
              obtain ⟨M_39, eM_39, hr⟩ := lt1_e hr
              refine p11_18 hx hb hts hi11 hown hK hW (k := 0) rfl (hts _ (wm 4 rfl)) dX11_worksOut_323 (fun H locs hW => ?_)
              rw [← eM_39] at hW
              have e1 := Option.some.inj hr
              subst e1
              exact hj326_34 _ _ _ hW (lv_sub hl [0, 1, 2] rfl)
    obtain ⟨M_33, hr, hr3⟩ := ob1_e hr
    refine hL248_2 1000 (0 : Int32) M_29 _ _ _ M_33 hW (lv_sub hl [1, 2, 0] rfl) hr (fun H locs ls hW hl => ?_)
    clear hr
    have hr := hr3
    refine lv_aload_n hx hb dX11_worksOut_332 rfl (lv_at hl 0 rfl) ?_
    refine lv_aload_n hx hb dX11_worksOut_333 rfl (lv_at hl 0 rfl) ?_
    obtain ⟨r_41, hc334, hr⟩ := ob1_e hr
    refine xk_l (va_runV (As := []) (rest := [.ref (ad 0)]) ⟨hx, hb, hml, hown, hts⟩ (c_X11_weighted l D cA ad M_33 hc334) (cwV 0 hts gX11_worksOut_X11_weighted rfl rfl rfl (by decide +kernel) ⟨Nat.le_of_ble_eq_true rfl, Nat.le_of_ble_eq_true rfl⟩) (xpreV hK hW (k := 0) rfl (by decide) rfl) rfl rfl hl.1 rfl (lv_room (Nat.le_of_ble_eq_true rfl)) dX11_worksOut_334 ⟨Nat.le_of_ble_eq_true rfl, Nat.le_of_ble_eq_true rfl⟩) hW (fun H locs hW => ?_)
    obtain ⟨M_42, eM_42, hr⟩ := lt1_e hr
    refine p11_19 hx hb hts hi11 hown hK hW (k := 0) rfl (hts _ (wm 10 rfl)) dX11_worksOut_337 (fun H locs hW => ?_)
    rw [← eM_42] at hW
    refine lv_iconst (v := (1 : Int32)) hx hb dX11_worksOut_340 (by decide) ?_
    obtain ⟨e1, e2⟩ := Prod.mk.inj (Option.some.inj hr)
    rw [← e1, ← e2]
    exact xzret hx hb hr0 hlocks hW adR_rf (by decide) dX11_worksOut_341
  · have hr := br_p c1 hr
    refine lv_iconst (v := (0 : Int32)) hx hb dX11_worksOut_230 (by decide) ?_
    obtain ⟨e1, e2⟩ := Prod.mk.inj (Option.some.inj hr)
    rw [← e1, ← e2]
    exact xzret hx hb hr0 hlocks hW adR_rf (by decide) dX11_worksOut_231

def f_X11_roundVelocity (M : Mm) : Option Int32 :=
ob1 (f_X11_factorFor (gJ M 0 19) M) fun r_1 =>
some (Int64.toInt32 (((gJ M 0 19) * (Int32.toInt64 r_1)) / (1000 : Int64)))

set_option maxHeartbeats 4000000 in
set_option maxRecDepth 100000 in
theorem c_X11_roundVelocity (l : Launch) (D : va_G) (cA : Nat → ClassId) (ad : Nat → Nat) (M : Mm) {r : Int32} (hr : f_X11_roundVelocity M = some r) : Met l yX11_roundVelocity wsX11_roundVelocity ({ frames := 3, cells := 0, slots := 0, locals := 73 }) (PcX D false cA ad M [.ref (ad 0)]) (QiX false D false cA ad r M) 0 0 (AX false ad) := by
  refine Met.ofW (cc := cX11_roundVelocity) (maxL := 1) (ret := (some .int)) (by decide) rfl ?_
  intro p e s m args below meth c s₁ B hml hv
  obtain ⟨rfl, hP0, hK⟩ := hv
  have hx := B.exec
  have hb := B.bytes
  have hr0 := B.returns
  have hts := atoms_spec (ws := wsX11_roundVelocity) B.pre
  have hown : s.vm.findClass RX11 = some m.cls := findClass_of_methodNamed B.named
  have hlocks := B.notSynchronized
  have hW := xstart hP0
  have hi11 : ∀ w ∈ wsX110, w ∈ wsX11_roundVelocity := fun w h => List.mem_cons_of_mem _ (List.mem_append_right _ h)
  have hl := lv_entry ([.ref (ad 0)]) (n := 1) (Nat.le_of_ble_eq_true rfl)
  rw [lg_entry_eq]
  generalize (lg_sl ([.ref (ad 0)]) ++ List.replicate (1 - (lg_sl ([.ref (ad 0)])).length) Slot.unset).toArray = ls at hl ⊢
  have hl : lv_has ls 1 [(0, .ref (ad 0))] := hl
  clear hP0
  unfold f_X11_roundVelocity at hr
  refine lv_aload_n hx hb dX11_roundVelocity_0 rfl (lv_at hl 0 rfl) ?_
  refine g11_19 hx hb hts hi11 hown hK hW (k := 0) rfl (hts _ (wm 1 rfl)) dX11_roundVelocity_1 ?_
  refine lv_aload_n hx hb dX11_roundVelocity_4 rfl (lv_at hl 0 rfl) ?_
  refine lv_aload_n hx hb dX11_roundVelocity_5 rfl (lv_at hl 0 rfl) ?_
  refine g11_19 hx hb hts hi11 hown hK hW (k := 0) rfl (hts _ (wm 1 rfl)) dX11_roundVelocity_6 ?_
  obtain ⟨r_1, hc9, hr⟩ := ob1_e hr
  refine xk_i (va_runV (As := [.long (gJ M 0 19)]) (rest := [.long (gJ M 0 19)]) ⟨hx, hb, hml, hown, hts⟩ (c_X11_factorFor l D cA ad M (gJ M 0 19) hc9) (cwV 1 hts gX11_roundVelocity_X11_factorFor rfl rfl rfl (by decide +kernel) ⟨Nat.le_of_ble_eq_true rfl, Nat.le_of_ble_eq_true rfl⟩) (xpreV hK hW (k := 0) rfl (by decide) rfl) rfl rfl hl.1 rfl (lv_room (Nat.le_of_ble_eq_true rfl)) dX11_roundVelocity_9 ⟨Nat.le_of_ble_eq_true rfl, Nat.le_of_ble_eq_true rfl⟩) hW (fun H locs hW => ?_)
  refine lv_i2l hx hb dX11_roundVelocity_12 rfl ?_
  refine lv_lmul hx hb dX11_roundVelocity_13 ?_
  refine lv_ldc2 (v := (1000 : Int64)) hx hb hown (hts _ (wm 2 rfl)) dX11_roundVelocity_14 ?_
  refine lv_ldiv hx hb dX11_roundVelocity_17 (by decide) ?_
  refine lv_l2i hx hb dX11_roundVelocity_18 rfl ?_
  rw [← Option.some.inj hr]
  exact xiret hx hb hr0 hlocks hW adR_rf dX11_roundVelocity_19

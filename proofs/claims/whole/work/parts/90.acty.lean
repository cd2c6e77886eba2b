/-! THE READERS, 7: the rest of an act, the reference -/
def wrY (b : Mm → Option (Int32 × Mm)) (N : Mm) : Option (Int32 × Mm) := ob2 (b N) fun r N' => if r = 0 then some (0, N') else some (1, N')
theorem ok_wr {t d d' : Nat} {a : Mm → Option Mm} {b : Mm → Option (Int32 × Mm)} (h : OpOk t d d' a b) : OpOk t d d' a (wrY b) := by
  refine ⟨fun p M N hS => ?_, h.2⟩
  unfold wrY
  rcases h.1 p M N hS with ⟨p1, M1, N1, e1, e2, l1, s1, f1, f2⟩ | ⟨p1, M1, N1, e1, e2, s1, l1, f1, f2⟩
  · rw [e2, ob2_s, if_neg one_0]
    exact Or.inl ⟨p1, M1, N1, e1, rfl, l1, s1, f1, f2⟩
  · rw [e2, ob2_s, if_pos rfl]
    exact Or.inr ⟨p1, M1, N1, e1, rfl, s1, l1, f1, f2⟩
def shotY2 : Mm → Option (Int32 × Mm) := sqY (f_X11_readNumber 0 0 3) (sqY (f_X11_passes 102) (sqY (f_X11_readNumber 1 1000 9999999) (sqY (f_X11_passes 98) (sqY (f_X11_readNumber 2 1000 9999999) (sqY (f_X11_passes 113) (sqY (f_X11_readNumber 3 0 100) (wrY (f_X11_passes 59))))))))
theorem ok_shot2 {t : Nat} : OpOk t 0 4 shotX shotY2 :=
  ok_seq (ok_num (w := 0) (by decide)) (ok_seq (ok_sign (by decide)) (ok_seq (ok_num (w := 1) (by decide)) (ok_seq (ok_sign (by decide)) (ok_seq (ok_num (w := 2) (by decide)) (ok_seq (ok_sign (by decide)) (ok_seq (ok_num (w := 3) (by decide)) (ok_wr (ok_sign (by decide)))))))))
theorem a22 {α α2 β β2 γ : Type} {x : Option (α × α2)} {f : α → α2 → Option (β × β2)} {g : β → β2 → Option γ} : ob2 (ob2 x f) g = ob2 x fun a b => ob2 (f a b) g := by
  cases x with
  | none => rfl
  | some p => obtain ⟨a, b⟩ := p; rfl
def tailY (M : Mm) : Option (Int32 × Mm) :=
ob2 ((if (gI M 0 22) = (115 : Int32) then (
ob2 (f_X11_readNumber (0 : Int32) (0 : Int32) (3 : Int32) M) fun r_7 M_6 =>
(if r_7 = (0 : Int32) then (
some ((0 : Int32), M_6)) else (
ob2 (f_X11_passes (102 : Int32) M_6) fun r_9 M_8 =>
(if r_9 = (0 : Int32) then (
some ((0 : Int32), M_8)) else (
ob2 (f_X11_readNumber (1 : Int32) (1000 : Int32) (9999999 : Int32) M_8) fun r_11 M_10 =>
(if r_11 = (0 : Int32) then (
some ((0 : Int32), M_10)) else (
ob2 (f_X11_passes (98 : Int32) M_10) fun r_13 M_12 =>
(if r_13 = (0 : Int32) then (
some ((0 : Int32), M_12)) else (
ob2 (f_X11_readNumber (2 : Int32) (1000 : Int32) (9999999 : Int32) M_12) fun r_15 M_14 =>
(if r_15 = (0 : Int32) then (
some ((0 : Int32), M_14)) else (
ob2 (f_X11_passes (113 : Int32) M_14) fun r_17 M_16 =>
(if r_17 = (0 : Int32) then (
some ((0 : Int32), M_16)) else (
ob2 (f_X11_readNumber (3 : Int32) (0 : Int32) (100 : Int32) M_16) fun r_19 M_18 =>
(if r_19 = (0 : Int32) then (
some ((0 : Int32), M_18)) else (
some ((1 : Int32), M_18)))))))))))))))) else (
some ((1 : Int32), M)))) fun y_4 M_5 =>
(if y_4 = (0 : Int32) then (
some ((0 : Int32), M_5)) else (
ob2 (f_X11_passes (59 : Int32) M_5) fun r_21 M_20 =>
(if r_21 = (0 : Int32) then (
some ((0 : Int32), M_20)) else (
some ((1 : Int32), M_20)))))
theorem tailY_s {M : Mm} (h : gI M 0 22 = 115) : tailY M = shotY2 M := by
  unfold tailY shotY2 sqY wrY
  rw [if_pos h]
  simp only [a22, ob2_br, ob2_s, one_0, if_true, if_false]
theorem tailY_o {M : Mm} (h : ¬ gI M 0 22 = 115) : tailY M = wrY (f_X11_passes 59) M := by
  unfold tailY wrY
  rw [if_neg h, ob2_s, if_neg one_0]

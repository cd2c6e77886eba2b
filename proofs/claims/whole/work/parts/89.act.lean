/-! THE READERS, 6: the rest of an act -/
def shotX : Mm → Option Mm := sqX (opN (4 + 0) 0 3) (sqX (f_X0_readSign 102) (sqX (opN (4 + 1) 1000 9999999) (sqX (f_X0_readSign 98) (sqX (opN (4 + 2) 1000 9999999) (sqX (f_X0_readSign 113) (sqX (opN (4 + 3) 0 100) (f_X0_readSign 59)))))))
def shotY : Mm → Option (Int32 × Mm) := sqY (f_X11_readNumber (nI 0) 0 3) (sqY (f_X11_passes 102) (sqY (f_X11_readNumber (nI 1) 1000 9999999) (sqY (f_X11_passes 98) (sqY (f_X11_readNumber (nI 2) 1000 9999999) (sqY (f_X11_passes 113) (sqY (f_X11_readNumber (nI 3) 0 100) (f_X11_passes 59)))))))
theorem ok_shot {t : Nat} : OpOk t 0 4 shotX shotY :=
  ok_seq (ok_num (w := 0) (by decide)) (ok_seq (ok_sign (by decide)) (ok_seq (ok_num (w := 1) (by decide)) (ok_seq (ok_sign (by decide)) (ok_seq (ok_num (w := 2) (by decide)) (ok_seq (ok_sign (by decide)) (ok_seq (ok_num (w := 3) (by decide)) (ok_sign (by decide))))))))
theorem a11 {α β γ : Type} {x : Option α} {f : α → Option β} {g : β → Option γ} : ob1 (ob1 x f) g = ob1 x fun a => ob1 (f a) g := by cases x <;> rfl
theorem a12 {α α2 β γ : Type} {x : Option (α × α2)} {f : α → α2 → Option β} {g : β → Option γ} : ob1 (ob2 x f) g = ob2 x fun a b => ob1 (f a b) g := by
  cases x with
  | none => rfl
  | some p => obtain ⟨a, b⟩ := p; rfl
theorem a1e {α : Type} {x : Option α} : (ob1 x fun a => some a) = x := by cases x <;> rfl
def tailX (M : Mm) : Option Mm :=
  ob1 ((if (gI M 229 3) = (115 : Int32) then (
ob2 (f_X0_readNumber (0 : Int32) (3 : Int32) M) fun r_6 M_5 =>
lt1 (wI M_5 229 4 r_6) fun M_7 =>
ob1 (f_X0_readSign (102 : Int32) M_7) fun M_8 =>
ob2 (f_X0_readNumber (1000 : Int32) (9999999 : Int32) M_8) fun r_10 M_9 =>
lt1 (wI M_9 229 5 r_10) fun M_11 =>
ob1 (f_X0_readSign (98 : Int32) M_11) fun M_12 =>
ob2 (f_X0_readNumber (1000 : Int32) (9999999 : Int32) M_12) fun r_14 M_13 =>
lt1 (wI M_13 229 6 r_14) fun M_15 =>
ob1 (f_X0_readSign (113 : Int32) M_15) fun M_16 =>
ob2 (f_X0_readNumber (0 : Int32) (100 : Int32) M_16) fun r_18 M_17 =>
lt1 (wI M_17 229 7 r_18) fun M_19 =>
some M_19) else (
some M))) fun M_4 =>
ob1 (f_X0_readSign (59 : Int32) M_4) fun M_20 =>
some M_20
theorem tailX_s {M : Mm} (h : gI M 229 3 = 115) : tailX M = shotX M := by
  unfold tailX shotX sqX opN
  rw [if_pos h]
  simp only [a11, a12, lt1_s, ob1_s, a1e]
theorem tailX_o {M : Mm} (h : ¬ gI M 229 3 = 115) : tailX M = f_X0_readSign 59 M := by
  unfold tailX
  rw [if_neg h, ob1_s, a1e]

/-! THE READERS, 8: an act -/
theorem x_act {M : Mm} : f_X0_readAct M = ob1 (f_X9_at (gI M 229 1) M) fun r => (fun M2 : Mm => if gI M2 229 3 = 115 then tailX (wI M2 229 1 (gI M2 229 1 + 1)) else if gI M2 229 3 = 99 then tailX (wI M2 229 1 (gI M2 229 1 + 1)) else if gI M2 229 3 = 119 then tailX (wI M2 229 1 (gI M2 229 1 + 1)) else some (wI M2 229 2 1)) (wI M 229 3 r) := rfl
theorem y_act {M : Mm} : f_X11_readAct M = ob1 (f_X11_here M) fun r => (fun M2 : Mm => if gI M2 0 22 = 115 then tailY (wI M2 0 21 (gI M2 0 21 + 1)) else if gI M2 0 22 = 99 then tailY (wI M2 0 21 (gI M2 0 21 + 1)) else if gI M2 0 22 = 119 then tailY (wI M2 0 21 (gI M2 0 21 + 1)) else some (0, M2)) (wI M 0 22 r) := rfl
theorem ok_tail {t p : Nat} {M N : Mm} (hS : St t p 0 M N) (hl : gI N 0 22 = gI M 229 3) :
    (∃ p' M' N', tailX M = some M' ∧ tailY N = some (1, N') ∧ p ≤ p' ∧ (St t p' 0 M' N' ∧ (gI M 229 3 = 115 → St t p' 4 M' N')) ∧ FrX M M' ∧ FrY N N') ∨ (∃ p' M' N', tailX M = some M' ∧ tailY N = some (0, N') ∧ Sf t p' M' ∧ gI N' 0 21 = nI p' ∧ FrX M M' ∧ FrY N N') := by
  by_cases c : gI M 229 3 = 115
  · rw [tailX_s c, tailY_s (hl.trans c)]
    rcases ok_shot2.1 p M N hS with ⟨p1, M1, N1, e1, e2, l1, s1, f1, f2⟩ | q
    · exact Or.inl ⟨p1, M1, N1, e1, e2, l1, ⟨⟨s1.1, s1.2.1, s1.2.2.1, s1.2.2.2.1, s1.2.2.2.2.1, fun j hj => absurd hj (by omega)⟩, fun _ => s1⟩, f1, f2⟩
    · exact Or.inr q
  · rw [tailX_o c, tailY_o (fun q => c (hl.symm.trans q))]
    rcases (ok_wr (ok_sign (t := t) (d := 0) (s := 59) (by decide))).1 p M N hS with ⟨p1, M1, N1, e1, e2, l1, s1, f1, f2⟩ | q
    · exact Or.inl ⟨p1, M1, N1, e1, e2, l1, ⟨s1, fun z => absurd z c⟩, f1, f2⟩
    · exact Or.inr q

/-! THE READERS, 9: an act, both sides -/
def acX (M2 : Mm) : Option Mm := if gI M2 229 3 = 115 then tailX (wI M2 229 1 (gI M2 229 1 + 1)) else if gI M2 229 3 = 99 then tailX (wI M2 229 1 (gI M2 229 1 + 1)) else if gI M2 229 3 = 119 then tailX (wI M2 229 1 (gI M2 229 1 + 1)) else some (wI M2 229 2 1)
def acY (M2 : Mm) : Option (Int32 × Mm) := if gI M2 0 22 = 115 then tailY (wI M2 0 21 (gI M2 0 21 + 1)) else if gI M2 0 22 = 99 then tailY (wI M2 0 21 (gI M2 0 21 + 1)) else if gI M2 0 22 = 119 then tailY (wI M2 0 21 (gI M2 0 21 + 1)) else some (0, M2)
theorem x_act2 {M : Mm} : f_X0_readAct M = ob1 (f_X9_at (gI M 229 1) M) fun r => acX (wI M 229 3 r) := rfl
theorem y_act2 {M : Mm} : f_X11_readAct M = ob1 (f_X11_here M) fun r => acY (wI M 0 22 r) := rfl
def GX (M M' : Mm) : Prop := (∀ k, k ≠ 229 → M'.1 k = M.1 k) ∧ M'.2 = M.2
def GY (N N' : Mm) : Prop := (∀ a, a ≠ 0 → a ≠ 15 → N'.1 a = N.1 a) ∧ (∀ j, j ≠ 21 → j ≠ 22 → N'.1 0 j = N.1 0 j) ∧ N'.2 = N.2
theorem GX.tr {A B C : Mm} (h : GX A B) (g : GX B C) : GX A C := ⟨fun k hk => (g.1 k hk).trans (h.1 k hk), g.2.trans h.2⟩
theorem GY.tr {A B C : Mm} (h : GY A B) (g : GY B C) : GY A C := ⟨fun a h0 h1 => (g.1 a h0 h1).trans (h.1 a h0 h1), fun j hj hj2 => (g.2.1 j hj hj2).trans (h.2.1 j hj hj2), g.2.2.trans h.2.2⟩
theorem GX.rf {M : Mm} : GX M M := ⟨fun _ _ => rfl, rfl⟩
theorem GY.rf {M : Mm} : GY M M := ⟨fun _ _ _ => rfl, fun _ _ _ => rfl, rfl⟩
theorem FrX.g {M M' : Mm} (h : FrX M M') : GX M M' := ⟨h.1, h.2.2⟩
theorem FrY.g {M M' : Mm} (h : FrY M M') : GY M M' := ⟨h.1, fun j hj _ => h.2.1 j hj, h.2.2⟩
theorem gx1 {M : Mm} {j : Nat} {v : Int32} : GX M (wI M 229 j v) := ⟨fun k hk => wI_o hk, rfl⟩
theorem gy21 {N : Mm} {v : Int32} : GY N (wI N 0 21 v) := ⟨fun a a0 _ => wI_o a0, fun j hj _ => wI_k hj, rfl⟩
theorem gy22 {N : Mm} {v : Int32} : GY N (wI N 0 22 v) := ⟨fun a a0 _ => wI_o a0, fun j _ hj => wI_k hj, rfl⟩
theorem Tt.g {M M' N N' : Mm} {t : Nat} (h : Tt M N t) (a : GX M M') (b : GY N N') : Tt M' N' t :=
  ⟨h.1, (congrFun (a.1 230 (by decide)) 1).trans h.2.1, (b.2.1 9 (by decide) (by decide)).trans h.2.2.1, fun k hk => by rw [a.1 231 (by decide), b.1 8 (by decide) (by decide)]; exact h.2.2.2 k hk⟩
def isLet (c : Int32) : Prop := c = 115 ∨ c = 99 ∨ c = 119
theorem if3 {α : Type} {c : Int32} {a b : α} : (isLet c ∧ (if c = 115 then a else if c = 99 then a else if c = 119 then a else b) = a) ∨ (¬ isLet c ∧ (if c = 115 then a else if c = 99 then a else if c = 119 then a else b) = b) := by
  unfold isLet
  by_cases h1 : c = 115
  · exact Or.inl ⟨Or.inl h1, if_pos h1⟩
  · rw [if_neg h1]
    by_cases h2 : c = 99
    · exact Or.inl ⟨Or.inr (Or.inl h2), if_pos h2⟩
    · rw [if_neg h2]
      by_cases h3 : c = 119
      · exact Or.inl ⟨Or.inr (Or.inr h3), if_pos h3⟩
      · exact Or.inr ⟨fun z => by rcases z with z | z | z <;> contradiction, if_neg h3⟩
theorem ok_act {t p : Nat} {M N : Mm} (hS : St t p 0 M N) :
    (∃ p' M' N', f_X0_readAct M = some M' ∧ f_X11_readAct N = some (1, N') ∧ p < p' ∧ St t p' 0 M' N' ∧ (gI M' 229 3 = 115 → St t p' 4 M' N') ∧ gI N' 0 22 = gI M' 229 3 ∧ isLet (gI M' 229 3) ∧ GX M M' ∧ GY N N') ∨
    (∃ p' M' N', f_X0_readAct M = some M' ∧ f_X11_readAct N = some (0, N') ∧ Sf t p' M' ∧ gI N' 0 21 = nI p' ∧ GX M M' ∧ GY N N') := by
  obtain ⟨s1, s2, s3, s4, s5, s6⟩ := hS
  have ht := s1.1
  rw [x_act2, y_act2, s3, x_at s1 (by omega), y_here s1 (by omega) s5, ob1_s, ob1_s]
  generalize hc : chT N t p = c
  have e3 : gI (wI M 229 3 c) 229 3 = c := wI_e
  have e22 : gI (wI N 0 22 c) 0 22 = c := wI_e
  have e1 : gI (wI M 229 3 c) 229 1 = nI p := (gI_k (by decide)).trans s3
  have e21 : gI (wI N 0 22 c) 0 21 = nI p := (gI_k (by decide)).trans s5
  have hT : Tt (wI M 229 3 c) (wI N 0 22 c) t := s1.g gx1 gy22
  unfold acX acY
  rw [e3, e22, e1, e21, ← nI_succ]
  rcases if3 (c := c) (a := tailX (wI (wI M 229 3 c) 229 1 (nI (p + 1)))) (b := some (wI (wI M 229 3 c) 229 2 1)) with ⟨l, i1⟩ | ⟨l, i1⟩
  · rcases if3 (c := c) (a := tailY (wI (wI N 0 22 c) 0 21 (nI (p + 1)))) (b := some ((0 : Int32), wI N 0 22 c)) with ⟨-, i2⟩ | ⟨l2, -⟩
    · rw [i1, i2]
      have pt : p < t := by
        by_cases z : p < t
        · exact z
        · exfalso
          have : chT N t p = -1 := if_neg z
          rw [hc] at this
          subst this
          rcases l with l | l | l <;> exact absurd l (by decide)
      have g3 : gI (wI (wI M 229 3 c) 229 1 (nI (p + 1))) 229 3 = c := (gI_k (by decide)).trans e3
      have g22 : gI (wI (wI N 0 22 c) 0 21 (nI (p + 1))) 0 22 = c := (gI_k (by decide)).trans e22
      have hS1 : St t (p + 1) 0 (wI (wI M 229 3 c) 229 1 (nI (p + 1))) (wI (wI N 0 22 c) 0 21 (nI (p + 1))) :=
        ⟨hT.g gx1 gy21, by omega, wI_e, (gI_k (by decide)).trans ((gI_k (by decide)).trans s4), wI_e, fun j hj => absurd hj (by omega)⟩
      rcases ok_tail hS1 (g22.trans g3.symm) with ⟨p', M', N', a1, a2, a3, ⟨a4, a5⟩, a6, a7⟩ | ⟨p', M', N', a1, a2, a3, a4, a6, a7⟩
      · have h3 : gI M' 229 3 = c := a6.2.1.trans g3
        have h22 : gI N' 0 22 = c := (a7.2.1 22 (by decide)).trans g22
        exact Or.inl ⟨p', M', N', a1, a2, by omega, a4, fun z => a5 (g3.trans (h3.symm.trans z)), h22.trans h3.symm, by rw [h3]; exact l, (gx1.tr gx1).tr a6.g, (gy22.tr gy21).tr a7.g⟩
      · exact Or.inr ⟨p', M', N', a1, a2, a3, a4, (gx1.tr gx1).tr a6.g, (gy22.tr gy21).tr a7.g⟩
    · exact absurd l l2
  · rcases if3 (c := c) (a := tailY (wI (wI N 0 22 c) 0 21 (nI (p + 1)))) (b := some ((0 : Int32), wI N 0 22 c)) with ⟨l2, -⟩ | ⟨-, i2⟩
    · exact absurd l2 l
    · rw [i1, i2]
      exact Or.inr ⟨p, _, _, rfl, rfl, ⟨⟨wI N 0 22 c, hT.g gx1 GY.rf⟩, s2, (gI_k (by decide)).trans e1, by rw [gI_1, wI_e]; decide⟩, e21, gx1.tr gx1, gy22⟩

/-! THE READERS, 4: steps of an act, both sides. A pair of steps (a, b): a goes on when the reader is faulty, b ends early -/
def FrX (M M' : Mm) : Prop := (∀ k, k ≠ 229 → M'.1 k = M.1 k) ∧ M'.1 229 3 = M.1 229 3 ∧ M'.2 = M.2
def FrY (N N' : Mm) : Prop := (∀ a, a ≠ 0 → a ≠ 15 → N'.1 a = N.1 a) ∧ (∀ j, j ≠ 21 → N'.1 0 j = N.1 0 j) ∧ N'.2 = N.2
theorem FrX.tr {A B C : Mm} (h : FrX A B) (g : FrX B C) : FrX A C := ⟨fun k hk => (g.1 k hk).trans (h.1 k hk), g.2.1.trans h.2.1, g.2.2.trans h.2.2⟩
theorem FrY.tr {A B C : Mm} (h : FrY A B) (g : FrY B C) : FrY A C := ⟨fun a h0 h1 => (g.1 a h0 h1).trans (h.1 a h0 h1), fun j hj => (g.2.1 j hj).trans (h.2.1 j hj), g.2.2.trans h.2.2⟩
/-- the reader at p, not faulty, d numbers read -/
def St (t p d : Nat) (M N : Mm) : Prop := Tt M N t ∧ p ≤ t ∧ gI M 229 1 = nI p ∧ gI M 229 2 = 0 ∧ gI N 0 21 = nI p ∧ ∀ j, j < d → M.1 229 (4 + j) = N.1 15 j
/-- faulty at p -/
def Sf (t p : Nat) (M : Mm) : Prop := (∃ N, Tt M N t) ∧ p ≤ t ∧ gI M 229 1 = nI p ∧ ¬ gI M 229 2 = 0
def OpOk (t d d' : Nat) (a : Mm → Option Mm) (b : Mm → Option (Int32 × Mm)) : Prop :=
  (∀ p M N, St t p d M N → (∃ p' M' N', a M = some M' ∧ b N = some (1, N') ∧ p ≤ p' ∧ St t p' d' M' N' ∧ FrX M M' ∧ FrY N N') ∨ (∃ p' M' N', a M = some M' ∧ b N = some (0, N') ∧ Sf t p' M' ∧ gI N' 0 21 = nI p' ∧ FrX M M' ∧ FrY N N')) ∧
  ∀ p M, Sf t p M → ∃ M', a M = some M' ∧ Sf t p M' ∧ FrX M M'
def opN (j : Nat) (lo hi : Int32) (M : Mm) : Option Mm := ob2 (f_X0_readNumber lo hi M) fun r M' => some (wI M' 229 j r)
theorem Tt.fr {M M' N N' : Mm} {t : Nat} (h : Tt M N t) (a : FrX M M') (b : FrY N N') : Tt M' N' t :=
  ⟨h.1, (congrFun (a.1 230 (by decide)) 1).trans h.2.1, (b.2.1 9 (by decide)).trans h.2.2.1, fun k hk => by rw [a.1 231 (by decide), b.1 8 (by decide) (by decide)]; exact h.2.2.2 k hk⟩
theorem fx1 {M : Mm} {j : Nat} {v : Int32} (h : j ≠ 3) : FrX M (wI M 229 j v) := ⟨fun k hk => wI_o hk, wI_k (Ne.symm h), rfl⟩
theorem FrY.rf {N : Mm} : FrY N N := ⟨fun _ _ _ => rfl, fun _ _ => rfl, rfl⟩
theorem ok_sign {t d : Nat} {s : Int32} (hs : ¬ s = -1) : OpOk t d d (f_X0_readSign s) (f_X11_passes s) := by
  constructor
  · rintro p M N ⟨s1, s2, s3, s4, s5, s6⟩
    have ht := s1.1
    rw [x_sign s1 s2 s3 s4, y_passes s1 s2 s5]
    by_cases c : chT N t p = s
    · rw [if_pos c, if_pos c]
      by_cases pt : p < t
      · have f1 : FrX M (wI M 229 1 (nI (p + 1))) := fx1 (by decide)
        have f2 : FrY N (wI N 0 21 (nI (p + 1))) := ⟨fun a a0 _ => wI_o a0, fun j hj => wI_k hj, rfl⟩
        refine Or.inl ⟨p + 1, _, _, rfl, rfl, by omega, ⟨s1.fr f1 f2, by omega, wI_e, (gI_k (by decide)).trans s4, wI_e, fun j hj => ?_⟩, f1, f2⟩
        rw [wI_k (by omega), wI_o (by decide)]
        exact s6 j hj
      · exact absurd (c.symm.trans (if_neg pt)) hs
    · rw [if_neg c, if_neg c]
      exact Or.inr ⟨p, _, _, rfl, rfl, ⟨⟨N, s1.fr (fx1 (by decide)) FrY.rf⟩, s2, (gI_k (by decide)).trans s3, by rw [gI_1, wI_e]; decide⟩, wI_e, fx1 (by decide), ⟨fun a a0 _ => wI_o a0, fun j hj => wI_k hj, rfl⟩⟩
  · rintro p M ⟨⟨N, s1⟩, s2, s3, s4⟩
    exact ⟨_, x_sign0 s4, ⟨⟨N, s1.fr (fx1 (by decide)) FrY.rf⟩, s2, (gI_k (by decide)).trans s3, by rw [gI_1, wI_e]; decide⟩, fx1 (by decide)⟩

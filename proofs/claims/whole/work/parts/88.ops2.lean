/-! THE READERS, 5: a number as a step, and steps in a row -/
theorem ok_num {t w : Nat} {lo hi : Int32} (hw : w < 4) : OpOk t w (w + 1) (opN (4 + w) lo hi) (f_X11_readNumber (nI w) lo hi) := by
  constructor
  · rintro p M N ⟨s1, s2, s3, s4, s5, s6⟩
    unfold opN
    rcases s_readNumber (lo := lo) (hi := hi) s1 s2 hw s3 s4 s5 with ⟨i, v, N', r1, r2, r3, r4, r5, r6⟩ | ⟨N', r2, r3, r4, r6⟩
    · have f1 : FrX M (wI (wI M 229 1 (nI (p + i))) 229 (4 + w) v) := (fx1 (by decide)).tr (fx1 (by omega))
      have f2 : FrY N N' := ⟨r6.1, r6.2.1, r6.2.2.2⟩
      rw [r2, r3, ob2_s]
      refine Or.inl ⟨p + i, _, _, rfl, rfl, by omega, ⟨s1.fr f1 f2, r1, (gI_k (by omega)).trans wI_e, (gI_k (by omega)).trans ((gI_k (by decide)).trans s4), r4, fun j hj => ?_⟩, f1, f2⟩
      by_cases e : j = w
      · subst e
        rw [wI_e]
        exact r5.symm
      · rw [wI_k (by omega), wI_k (by omega), r6.2.2.1 j e]
        exact s6 j (by omega)
    · have f1 : FrX M (wI (wI M 229 2 1) 229 (4 + w) 0) := (fx1 (by decide)).tr (fx1 (by omega))
      have f2 : FrY N N' := ⟨r6.1, r6.2.1, r6.2.2.2⟩
      rw [r2, r3, ob2_s]
      exact Or.inr ⟨p, _, _, rfl, rfl, ⟨⟨N, s1.fr f1 FrY.rf⟩, s2, (gI_k (by omega)).trans ((gI_k (by decide)).trans s3), by rw [gI_k (by omega), gI_1, wI_e]; decide⟩, r4, f1, f2⟩
  · rintro p M ⟨⟨N, s1⟩, s2, s3, s4⟩
    have f1 : FrX M (wI (wI M 229 2 1) 229 (4 + w) 0) := (fx1 (by decide)).tr (fx1 (by omega))
    unfold opN
    rw [x_number0 s1 s2 s3 s4, ob2_s]
    exact ⟨_, rfl, ⟨⟨N, s1.fr f1 FrY.rf⟩, s2, (gI_k (by omega)).trans ((gI_k (by decide)).trans s3), by rw [gI_k (by omega), gI_1, wI_e]; decide⟩, f1⟩
/-- one step, then another: the reference stops at the first that fails -/
def sqX (a a2 : Mm → Option Mm) (M : Mm) : Option Mm := ob1 (a M) a2
def sqY (b b2 : Mm → Option (Int32 × Mm)) (N : Mm) : Option (Int32 × Mm) := ob2 (b N) fun r N' => if r = 0 then some (0, N') else b2 N'
theorem ok_seq {t d d' d'' : Nat} {a a2 : Mm → Option Mm} {b b2 : Mm → Option (Int32 × Mm)} (h : OpOk t d d' a b) (h2 : OpOk t d' d'' a2 b2) : OpOk t d d'' (sqX a a2) (sqY b b2) := by
  constructor
  · intro p M N hS
    unfold sqX sqY
    rcases h.1 p M N hS with ⟨p1, M1, N1, e1, e2, l1, s1, f1, f2⟩ | ⟨p1, M1, N1, e1, e2, s1, l1, f1, f2⟩
    · rw [e1, e2, ob1_s, ob2_s, if_neg one_0]
      rcases h2.1 p1 M1 N1 s1 with ⟨p2, M2, N2, e3, e4, l2, s2, f3, f4⟩ | ⟨p2, M2, N2, e3, e4, s2, l2, f3, f4⟩
      · exact Or.inl ⟨p2, M2, N2, e3, e4, by omega, s2, f1.tr f3, f2.tr f4⟩
      · exact Or.inr ⟨p2, M2, N2, e3, e4, s2, l2, f1.tr f3, f2.tr f4⟩
    · rw [e1, e2, ob1_s, ob2_s, if_pos rfl]
      obtain ⟨M2, e3, s2, f3⟩ := h2.2 p1 M1 s1
      exact Or.inr ⟨p1, M2, N1, e3, rfl, s2, l1, f1.tr f3, f2⟩
  · intro p M hS
    obtain ⟨M1, e1, s1, f1⟩ := h.2 p M hS
    unfold sqX
    rw [e1, ob1_s]
    obtain ⟨M2, e3, s2, f3⟩ := h2.2 p M1 s1
    exact ⟨M2, e3, s2, f1.tr f3⟩

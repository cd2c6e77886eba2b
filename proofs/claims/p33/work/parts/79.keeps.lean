/-! CLOSING, 5: the rounds kept -/
theorem y_shift {Y : Mm} : ∃ N, f_X11_keeps_L3 1000 (71 : Int32) Y = some N ∧ (∀ j, N.1 1 j = if 93 ≤ j ∧ j < 159 then Y.1 1 (j - 6) else Y.1 1 j) ∧ (∀ a, a ≠ 1 → N.1 a = Y.1 a) ∧ N.2 = Y.2 := by
  refine (fun z => z) (lp (fun f (s : Nat × Mm) => f_X11_keeps_L3 f (nI s.1) s.2) (fun k s => s.1 = k + 5 ∧ k ≤ 66 ∧ (∀ j, s.2.1 1 j = if 93 + k ≤ j ∧ j < 159 then Y.1 1 (j - 6) else Y.1 1 j) ∧ (∀ a, a ≠ 1 → s.2.1 a = Y.1 a) ∧ s.2.2 = Y.2) (fun N => (∀ j, N.1 1 j = if 93 ≤ j ∧ j < 159 then Y.1 1 (j - 6) else Y.1 1 j) ∧ (∀ a, a ≠ 1 → N.1 a = Y.1 a) ∧ N.2 = Y.2) (fun f k s q => ?_) 66 (71, Y) 1000 ⟨rfl, by decide, fun j => by rw [if_neg (by omega)], fun _ _ => rfl, rfl⟩ (by decide))
  obtain ⟨c, N⟩ := s
  obtain ⟨q1, q2, q3, q4, q5⟩ := q
  simp only at q1 q2 q3 q4 q5
  subst q1
  simp only [f_X11_keeps_L3]
  rcases Nat.eq_zero_or_pos k with e | e
  · subst e
    rw [if_pos (show nI (0 + 5) < (6 : Int32) by decide)]
    exact Or.inl ⟨N, rfl, q3, q4, q5⟩
  · obtain ⟨m, rfl⟩ : ∃ m, k = m + 1 := ⟨k - 1, by omega⟩
    rw [if_neg (show ¬ nI (m + 1 + 5) < (6 : Int32) from fun z => by
      have : (6 : Int32) ≤ nI (m + 1 + 5) := nI_le (a := 6) (by omega) (by omega)
      rw [i_le] at this
      rw [i_lt] at z
      omega), show (87 : Int32) + nI (m + 1 + 5) = nI (87 + (m + 1 + 5)) from nI_add 87 _, show nI (87 + (m + 1 + 5)) - (6 : Int32) = nI (87 + (m + 1 + 5) - 6) from nI_sub (b := 6) (by omega), chk_p (inb_n (by omega) (by decide)), chk_p (inb_n (by omega) (by decide)), lt1_s, lt1_s, ix_n (by omega), ix_n (by omega), show nI (m + 1 + 5) + (-1 : Int32) = nI (m + 5) by
        rw [show m + 1 + 5 = (m + 5) + 1 by omega, nI_succ, Int32.add_assoc, show (1 : Int32) + (-1) = 0 by decide, Int32.add_zero]]
    refine Or.inr ⟨m, (m + 5, _), rfl, ⟨rfl, by omega, fun j => ?_, fun a ha => (wI_o ha).trans (q4 a ha), q5⟩, rfl⟩
    show (if 1 = 1 ∧ j = 87 + (m + 1 + 5) then gI N 1 (87 + (m + 1 + 5) - 6) else N.1 1 j) = _
    by_cases d : j = 87 + (m + 1 + 5)
    · rw [if_pos ⟨rfl, d⟩, if_pos (by omega), gI_1, q3, if_neg (by omega), d]
    · rw [if_neg (fun z => d z.2), q3]
      by_cases d2 : 93 + (m + 1) ≤ j ∧ j < 159
      · rw [if_pos d2, if_pos (by omega)]
      · rw [if_neg d2, if_neg (by omega)]
def kpY (Z : Mm) (a b : Int32) : Mm := wI (wI (wI (wI (wI (wI (wI Z 1 87 a) 1 88 b) 1 89 (gI Z 0 16)) 1 90 (gI Z 0 17)) 1 91 (gI Z 0 18)) 1 92 (gI Z 0 15)) 1 86 (gI Z 1 86 + if (12 : Int32) ≤ gI Z 1 86 then 0 else 1)
theorem y_keeps {Y : Mm} {hs v a b : Int32} (ha : a = if hs = 0 then -2000000005 else v) (hb : b = if hs = 0 then -2000000005 else Int64.toInt32 (gJ Y 0 19)) : ∃ Z, f_X11_keeps hs v Y = some (kpY Z a b) ∧ (∀ j, Z.1 1 j = if 93 ≤ j ∧ j < 159 then Y.1 1 (j - 6) else Y.1 1 j) ∧ (∀ a, a ≠ 1 → Z.1 a = Y.1 a) ∧ Z.2 = Y.2 := by
  obtain ⟨Z, e, z1, z2, z3⟩ := y_shift (Y := Y)
  refine ⟨Z, ?_, z1, z2, z3⟩
  unfold f_X11_keeps
  have e3 : ∀ w, gJ (wI Z 1 87 w) 0 19 = gJ Y 0 19 := fun w => congrFun (congrFun z3 0) 19
  rw [e, ob1_s, ob1_if, ← ha, lt1_s, e3, ob1_if, ← hb, lt1_s]
  simp (disch := omega) only [lt1_s, gI_o, gI_k, ob1_if]
  rfl
theorem x_keeps {M : Mm} : ob1 (f_X6_startLatest M) f_X2_fillIn = some (wI (wI (wI (wI (wI (wI (wI (shR M) 14 1 (jmin (gI M 14 1 + 1) 12)) 16 0 (gI M 232 10)) 16 1 (gI M 232 9)) 16 2 (gI M 232 6)) 16 3 (gI M 232 7)) 16 4 (gI M 232 8)) 16 5 (gI M 232 5)) := by
  unfold f_X6_startLatest f_X2_fillIn
  rw [ob1_s]
  simp (disch := omega) only [lt1_s, gI_o, gI_k]
  rfl
theorem PR_next {n : Nat} {C C' : Int32} {R R' : Nat → Nat → Int32} {P P' : Nat → Int32} (h : PR n C R P) (hC : C' = jmin (C + 1) 12) (hR0 : ∀ j, j < 6 → P' (87 + j) = R' 0 j) (hR : ∀ k, k < 11 → ∀ j, j < 6 → R' (k + 1) j = R k j) (hP : ∀ j, j < 66 → P' (93 + j) = P (87 + j)) (h86 : P' 86 = P 86 + if (12 : Int32) ≤ P 86 then 0 else 1) (hb : R' 0 0 = -2000000005 ∨ -1000000 ≤ R' 0 0 ∧ R' 0 0 ≤ 1000000) : ∃ m, PR m C' R' P' := by
  obtain ⟨h1, h2, h3, h4, h5⟩ := h
  have rows : ∀ k, k < 12 → ∀ j, j < 6 → P' (87 + 6 * k + j) = R' k j := fun k hk j hj => by
    rcases Nat.eq_zero_or_pos k with e | e
    · subst e; exact hR0 j hj
    · obtain ⟨m, rfl⟩ : ∃ m, k = m + 1 := ⟨k - 1, by omega⟩
      rw [hR m (by omega) j hj, show 87 + 6 * (m + 1) + j = 93 + (6 * m + j) by omega, hP _ (by omega), show 87 + (6 * m + j) = 87 + 6 * m + j by omega]
      exact h4 m (by omega) j hj
  have bnd : ∀ m, m ≤ n + 1 → m ≤ 12 → ∀ k, k < m → R' k 0 = -2000000005 ∨ -1000000 ≤ R' k 0 ∧ R' k 0 ≤ 1000000 := fun m m1 m2 k hk => by
    rcases Nat.eq_zero_or_pos k with e | e
    · subst e; exact hb
    · obtain ⟨q, rfl⟩ : ∃ q, k = q + 1 := ⟨k - 1, by omega⟩
      rw [hR q (by omega) 0 (by decide)]
      exact h5 q (by omega)
  by_cases c : n = 12
  · subst c
    refine ⟨12, by omega, ?_, ?_, rows, bnd 12 (by omega) (by omega)⟩
    · rw [hC, h2]; decide
    · rw [h86, h3]; decide
  · refine ⟨n + 1, by omega, ?_, ?_, rows, bnd (n + 1) (by omega) (by omega)⟩
    · rw [hC, h2, ← nI_succ]
      have : ∀ n, n < 12 → jmin (nI (n + 1)) 12 = nI (n + 1) := by decide
      exact this n (by omega)
    · rw [h86, h3, nI_succ]
      have : ∀ n, n < 12 → (if (12 : Int32) ≤ nI n then (0 : Int32) else 1) = 1 := by decide
      rw [this n (by omega)]

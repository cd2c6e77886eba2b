/-! WHAT WOULD BE: the round, an outcome, the skips needed -/
theorem JD.rel {X Y X' Y' : Mm} {n : Nat} {sk hs : Int32} (h : Rel X Y) (j : JD X Y X' Y' n sk hs) : Rel X' Y' :=
  Rel_keep (fun k hk => ⟨j.2.1.1 k (by omega), congrFun j.2.1.2 k⟩) ⟨j.2.2.1.2.1 4 (by decide), j.2.2.1.2.1 9 (by decide)⟩ (fun a ha => j.2.2.1.1 a (by omega)) (fun a ha => j.2.2.1.2.2 a (by omega) (by omega)) h
theorem sk_ok {X Y : Mm} (h : Rel X Y) : gI Y 1 79 = gI X 13 1 ∧ gI X 13 1 ≤ 5 := by
  obtain ⟨-, -, hS, -⟩ := h.pg
  exact ⟨hS.1.2.1, hS.2.2.1.2⟩
theorem s_wouldBe {X Y : Mm} (h : Rel X Y) : ∃ r X' Y', f_X10_wouldBe X = some (r, X') ∧ f_X11_wouldBe Y = some (r, Y') ∧ Rel X' Y' := by
  obtain ⟨⟨n, hn, hx, hy, -⟩, -⟩ := h.pg
  obtain ⟨k1, k2⟩ := sk_ok h
  unfold f_X10_wouldBe f_X11_wouldBe
  rw [show gI X 0 1 = nI n from hx, show gI Y 1 64 = nI n from hy]
  by_cases c : nI n = 0
  · rw [if_pos c, if_pos c]
    exact ⟨_, _, _, rfl, rfl, h⟩
  · rw [if_neg c, if_neg c, k1]
    obtain ⟨X', Y', m, hs, e1, e2, j⟩ := s_judge h k2
    rw [e1, e2, ob1_s, ob2_s]
    have hR := j.rel h
    rcases j.2.2.2.2.2.2 with ⟨-, rfl, -, q, -⟩ | ⟨-, rfl, -, -, q, -⟩
    · rw [if_pos rfl]
      exact ⟨_, _, _, rfl, congrArg (fun z => some (z, Y')) q.symm, hR⟩
    · rw [if_neg (show ¬ (1 : Int32) = 0 by decide), q, ob1_s]
      exact ⟨_, _, _, rfl, rfl, hR⟩
theorem s_wouldBecome (x1 : Int32) {X Y : Mm} (h : Rel X Y) : ∃ r X' Y', f_X10_wouldBecome x1 X = some (r, X') ∧ f_X11_wouldBecome x1 Y = some (r, Y') ∧ Rel X' Y' := by
  obtain ⟨⟨n, hn, hx, hy, -⟩, -⟩ := h.pg
  obtain ⟨k1, k2⟩ := sk_ok h
  unfold f_X10_wouldBecome f_X11_wouldBecome
  rcases path_c hn hx hy x1 with ⟨i, hi, rfl, e1, e2⟩ | ⟨e1, e2⟩
  · have i4 : i < 4 := by omega
    rw [e1, e2, ob1_s, ob1_s, onl_s, chk_p (ks_path i4), if_neg one_0, k1]
    obtain ⟨X', Y', m, hs, e3, e4, j⟩ := s_judge h k2
    have hm : m = n := by
      have a : nI m = nI n := j.1.2.1.symm.trans hx
      exact (nI_eq (by have := j.1.1; omega) (by omega)).mp a
    subst hm
    rw [e3, e4, ob1_s, ob2_s, chk_p (inb_n i4 (by decide)), ix_n (by omega)]
    unfold f_X2_outcomeOf
    rw [if_neg (show ¬ nI i < 0 from fun z => nI_in (N := 4) i4 (by decide) (Or.inl z)), if_neg (show ¬ (4 : Int32) ≤ nI i from nI_ge i4 (by decide)), chk_p (inb_n i4 (by decide)), ix_n (by omega), ob1_s, show gI X' 236 i = outc X (gI X 13 1) i from j.2.2.2.1.1 i i4, show gI Y' 9 i = outc X (gI X 13 1) i from j.2.2.2.1.2 i hi]
    exact ⟨_, _, _, rfl, rfl, j.rel h⟩
  · rw [e1, e2, ob1_s, ob1_s, onl_n, if_pos rfl]
    exact ⟨_, _, _, rfl, rfl, h⟩
theorem x_hasOut {M : Mm} {o : Nat → Int32} (h : ∀ i, i < 4 → M.1 236 i = o i) : ∃ r, f_X2_hasOutlier M = some r ∧ (r = 0 ∨ r = 1) ∧ (r = 0 ↔ ∀ i, i < 4 → ¬ o i = 2) := by
  refine (fun z => z) (lpUp (L := fun f x (_ : Unit) => f_X2_hasOutlier_L10 M f x) 4 (fun i _ => ∀ k, k < i → ¬ o k = 2) (fun r => (r = 0 ∨ r = 1) ∧ (r = 0 ↔ ∀ i, i < 4 → ¬ o i = 2)) (fun f _ q => ⟨0, by rw [f_X2_hasOutlier_L10, if_pos (show (4 : Int32) ≤ nI 4 by decide)], Or.inl rfl, fun _ => q, fun _ => rfl⟩) (fun f i _ hi q => ?_) (by decide) (s := ()) (fun k hk => absurd hk (by omega)))
  simp only [f_X2_hasOutlier_L10]
  rw [if_neg (show ¬ (4 : Int32) ≤ nI i from nI_ge hi (by decide)), chk_p (inb_n hi (by decide)), lt1_s, ix_n (by omega), show gI M 236 i = o i from h i hi]
  by_cases c : o i = 2
  · rw [if_pos c]
    exact Or.inl ⟨1, rfl, Or.inr rfl, fun z => absurd z (by decide), fun z => absurd c (z i hi)⟩
  · rw [if_neg c, lt1_s, nI_succ]
    refine Or.inr ⟨(), fun k hk => ?_, rfl⟩
    rcases Nat.eq_or_lt_of_le (show k ≤ i by omega) with e | e
    · rw [e]; exact c
    · exact q k e
theorem y_hasOut {M : Mm} {n : Nat} {o : Nat → Int32} (hn : n ≤ 4) (h64 : M.1 1 64 = nI n) (h : ∀ i, i < n → M.1 9 i = o i) : ∃ r, f_X11_skipsNeeded_L18 M 1000 (0 : Int32) (0 : Int32) = some r ∧ (r = 0 ∨ r = 1) ∧ (r = 0 ↔ ∀ i, i < n → ¬ o i = 2) := by
  refine (fun z => z) (lpUp (L := fun f x (v : Int32) => f_X11_skipsNeeded_L18 M f v x) n (fun i v => (v = 0 ∨ v = 1) ∧ (v = 0 ↔ ∀ k, k < i → ¬ o k = 2)) (fun r => (r = 0 ∨ r = 1) ∧ (r = 0 ↔ ∀ i, i < n → ¬ o i = 2)) (fun f v q => ⟨v, by rw [f_X11_skipsNeeded_L18, show gI M 1 64 = nI n from h64, if_pos (Int32.le_refl _)], q⟩) (fun f i v hi q => ?_) (by omega) (s := (0 : Int32)) ⟨Or.inl rfl, fun _ k hk => absurd hk (by omega), fun _ => rfl⟩)
  simp only [f_X11_skipsNeeded_L18]
  rw [show gI M 1 64 = nI n from h64, if_neg (show ¬ nI n ≤ nI i from nI_ge hi (by omega))]
  obtain ⟨q1, q2⟩ := q
  by_cases c : v = 0
  · rw [if_pos c, chk_p (inb_n (show i < 4 by omega) (by decide)), ix_n (by omega), show gI M 9 i = o i from h i hi, ob1_if, lt1_s, nI_succ]
    refine Or.inr ⟨_, ⟨?_, ?_⟩, rfl⟩
    · by_cases d : o i = 2
      · rw [if_pos d]; exact Or.inr rfl
      · rw [if_neg d]; exact Or.inl rfl
    · by_cases d : o i = 2
      · rw [if_pos d]
        exact ⟨fun z => absurd z (by decide), fun z => absurd d (z i (by omega))⟩
      · rw [if_neg d]
        refine ⟨fun _ k hk => ?_, fun _ => rfl⟩
        rcases Nat.eq_or_lt_of_le (show k ≤ i by omega) with e | e
        · rw [e]; exact d
        · exact q2.mp c k e
  · rw [if_neg c, ob1_s, lt1_s, nI_succ]
    refine Or.inr ⟨1, ⟨Or.inr rfl, fun z => absurd z (by decide), fun z => ?_⟩, rfl⟩
    exact absurd (q2.mpr (fun k hk => z k (by omega))) c
theorem s_skipsNeeded {X Y : Mm} (h : Rel X Y) : ∃ r X' Y', f_X10_skipsNeeded X = some (r, X') ∧ f_X11_skipsNeeded Y = some (r, Y') ∧ Rel X' Y' := by
  obtain ⟨b, c, e1, e2, e3, e4⟩ := lpB (fun f (s : Nat × Mm) => f_X10_skipsNeeded_L2 f (nI s.1) s.2) (fun f (s : Nat × Mm) => f_X11_skipsNeeded_L2 f (nI s.1) s.2) (fun k s t => s.1 + k = 6 ∧ t.1 = s.1 ∧ Rel s.2 t.2) (fun b c => b.1 = c.1 ∧ Rel b.2 c.2) (fun f k s t q => by
    obtain ⟨i, X⟩ := s
    obtain ⟨i', Y⟩ := t
    obtain ⟨q1, q2, h⟩ := q
    simp only at q1 q2 h
    subst q2
    simp only [f_X10_skipsNeeded_L2, f_X11_skipsNeeded_L2]
    by_cases c6 : i' = 6
    · subst c6
      rw [if_pos (show (5 : Int32) < nI 6 by decide), if_pos (show (5 : Int32) < nI 6 by decide)]
      exact Or.inl ⟨_, _, rfl, rfl, rfl, h⟩
    · have i5 : i' ≤ 5 := by omega
      have hk : nI i' ≤ 5 := nI_le i5 (by decide)
      have hk2 : ¬ (5 : Int32) < nI i' := fun z => by
        rw [i_lt] at z
        rw [i_le] at hk
        omega
      rw [if_neg hk2, if_neg hk2]
      obtain ⟨X', Y', m, hs, a1, a2, j⟩ := s_judge h hk
      obtain ⟨hm, hx, hy, hp, hq⟩ := id j.1
      obtain ⟨r1, b1, b2, b3⟩ := x_hasOut (M := X') j.2.2.2.1.1
      obtain ⟨r2, d1, d2, d3⟩ := y_hasOut (M := Y') (n := m) hm ((congrFun (j.2.2.1.1 1 (by decide)) 64).trans hy) j.2.2.2.1.2
      have hr : r1 = 0 ↔ r2 = 0 := by
        rw [b3, d3]
        refine ⟨fun z i hi => z i (by omega), fun z i hi => ?_⟩
        rcases Nat.lt_or_ge i m with y | y
        · exact z i y
        · have u : X.1 (3 + 2 * i) 0 = 0 := (hq i y hi).2.2.2.2.2.2.2
          rw [show outc X (nI i') i = 0 from if_pos u]
          decide
      rw [a1, a2, ob1_s, ob2_s, b1, d1, ob1_s, ob1_s]
      by_cases z : r1 = 0
      · rw [if_pos z, if_pos (hr.mp z)]
        exact Or.inl ⟨_, _, rfl, rfl, rfl, j.rel h⟩
      · rw [if_neg z, if_neg (fun y => z (hr.mpr y)), lt1_s, lt1_s, ← nI_succ]
        exact Or.inr ⟨k - 1, (i' + 1, X'), (i' + 1, Y'), by omega, ⟨by show i' + 1 + (k - 1) = 6; omega, rfl, j.rel h⟩, rfl, rfl⟩) 6 (0, X) (0, Y) 1000 ⟨rfl, rfl, h⟩ (by decide)
  obtain ⟨r, X'⟩ := b
  obtain ⟨r', Y'⟩ := c
  simp only at e3 e4
  subst e3
  exact ⟨r, X', Y', e1, e2, e4⟩

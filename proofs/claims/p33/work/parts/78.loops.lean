/-! CLOSING, 4: the loops over the paths -/
theorem timeOf_congr {N Y : Mm} {i w : Nat} (hi : i < 4) (hw : w < 2) (h1 : ∀ j, j < 16 → N.1 1 (16 * i + j) = Y.1 1 (16 * i + j)) (h2 : N.1 10 = Y.1 10) : f_X11_timeOf (nI i) (nI w) N = f_X11_timeOf (nI i) (nI w) Y := by
  have ev : (2 : Int32) * nI i + nI w = nI (2 * i + w) := (congrArg (· + nI w) (nI_mul 2 i)).trans (nI_add _ _)
  unfold f_X11_timeOf
  rw [(yofW hi hw).1, (yofW hi hw).1, ob1_s, ob1_s, yof3 hi, yof3 hi, ob1_s, ob1_s, h1 (13 + w) (by omega), h1 3 (by decide), show gI N 10 = Y.1 10 from h2]
  rfl
theorem PL_clear {A S p S' p' : Nat → Int32} (h : PL A S p) (hS : S' 0 = 0) (hp : p' 13 = -2000000005) (he : ∀ j, j < 13 → p' j = p j) : PL A S' p' := by
  unfold PL at h ⊢
  simp only [he 0 (by decide), he 1 (by decide), he 2 (by decide), he 3 (by decide), he 4 (by decide), he 5 (by decide), he 6 (by decide), he 7 (by decide), he 8 (by decide), he 9 (by decide), he 10 (by decide), he 11 (by decide), he 12 (by decide)]
  exact ⟨h.1, h.2.1, h.2.2.1, h.2.2.2.1, h.2.2.2.2.1, Or.inl ⟨hS, hp⟩⟩
theorem x_clr43 {M : Mm} : ∃ M', f_X2_settle_L43 1000 (0 : Int32) M = some M' ∧ (∀ i, i < 4 → M'.1 (3 + 2 * i) 0 = 0) ∧ (∀ k, k ≠ 3 → k ≠ 5 → k ≠ 7 → k ≠ 9 → M'.1 k = M.1 k) ∧ M'.2 = M.2 := by
  refine (fun z => z) (lpUp (L := fun f x s => f_X2_settle_L43 f x s) 4 (fun i N => (∀ j, j < i → N.1 (3 + 2 * j) 0 = 0) ∧ (∀ k, k ≠ 3 → k ≠ 5 → k ≠ 7 → k ≠ 9 → N.1 k = M.1 k) ∧ N.2 = M.2) (fun M' => (∀ i, i < 4 → M'.1 (3 + 2 * i) 0 = 0) ∧ (∀ k, k ≠ 3 → k ≠ 5 → k ≠ 7 → k ≠ 9 → M'.1 k = M.1 k) ∧ M'.2 = M.2) (fun f N h => ⟨N, by rw [f_X2_settle_L43, if_pos (show (4 : Int32) ≤ nI 4 by decide)], h⟩) (fun f i N hi h => ?_) (by decide) ⟨fun j hj => absurd hj (by omega), fun _ _ _ _ _ => rfl, rfl⟩)
  simp only [f_X2_settle_L43]
  rw [if_neg (show ¬ (4 : Int32) ≤ nI i from nI_ge hi (by decide)), chk_p (inb_n hi (by decide)), lt1_s, lt1_s, show rid 50 1 (ix (nI i)) + 1 = 3 + 2 * i by rw [show rid 50 1 (ix (nI i)) = 0 + (2 + 2 * i) from rid50 (a := 0) hi]; omega, ← nI_succ]
  refine Or.inr ⟨_, ⟨fun j hj => ?_, fun k k3 k5 k7 k9 => (wI_o (by omega)).trans (h.2.1 k k3 k5 k7 k9), h.2.2⟩, rfl⟩
  by_cases e : j = i
  · subst e; exact wI_e
  · rw [wI_o (by omega)]
    exact h.1 j (by omega)
theorem y_clr52 {M : Mm} {n : Nat} (hn : n ≤ 4) (h64 : M.1 1 64 = nI n) : ∃ M', f_X11_closes_L52 1000 (0 : Int32) M = some M' ∧ (∀ i, i < n → M'.1 1 (16 * i + 13) = -2000000005) ∧ (∀ k, (∀ i, i < n → k ≠ 16 * i + 13) → M'.1 1 k = M.1 1 k) ∧ (∀ a, a ≠ 1 → M'.1 a = M.1 a) ∧ M'.2 = M.2 := by
  refine (fun z => z) (lpUp (L := fun f x s => f_X11_closes_L52 f x s) n (fun i N => (∀ j, j < i → N.1 1 (16 * j + 13) = -2000000005) ∧ (∀ k, (∀ i, i < n → k ≠ 16 * i + 13) → N.1 1 k = M.1 1 k) ∧ (∀ a, a ≠ 1 → N.1 a = M.1 a) ∧ N.2 = M.2) (fun M' => (∀ i, i < n → M'.1 1 (16 * i + 13) = -2000000005) ∧ (∀ k, (∀ i, i < n → k ≠ 16 * i + 13) → M'.1 1 k = M.1 1 k) ∧ (∀ a, a ≠ 1 → M'.1 a = M.1 a) ∧ M'.2 = M.2) (fun f N h => ⟨N, by rw [f_X11_closes_L52, show gI N 1 64 = nI n from (h.2.1 64 (fun i _ => by omega)).trans h64, if_pos (Int32.le_refl _)], h⟩) (fun f i N hi h => ?_) (by omega) ⟨fun j hj => absurd hj (by omega), fun _ _ => rfl, fun _ _ => rfl, rfl⟩)
  simp only [f_X11_closes_L52]
  rw [show gI N 1 64 = nI n from (h.2.1 64 (fun i _ => by omega)).trans h64, if_neg (show ¬ nI n ≤ nI i from nI_ge hi (by omega)), ylay13 (by omega), ob1_s, lt1_s, ← nI_succ]
  refine Or.inr ⟨_, ⟨fun j hj => ?_, fun k hk => (wI_k (hk i hi)).trans (h.2.1 k hk), fun a ha => (wI_o ha).trans (h.2.2.1 a ha), h.2.2.2⟩, rfl⟩
  by_cases e : j = i
  · subst e; exact wI_e
  · rw [wI_k (by omega)]
    exact h.1 j (by omega)
def InL (X1 Y1 : Mm) (n i : Nat) (M N : Mm) : Prop :=
  ((∀ k, (∀ j, j < i → k ≠ 2 + 2 * j) → M.1 k = X1.1 k) ∧ M.2 = X1.2) ∧ ((∀ a, a ≠ 1 → N.1 a = Y1.1 a) ∧ N.2 = Y1.2 ∧ ∀ k, 16 * i ≤ k → N.1 1 k = Y1.1 1 k) ∧ ∀ j, j < n → PL (M.1 (2 + 2 * j)) (M.1 (3 + 2 * j)) (fun k => N.1 1 (16 * j + k))
theorem s_paths {X Y X1 Y1 : Mm} {n : Nat} {sk hs : Int32} (h : Rel X Y) (hk : sk ≤ 5) (J : JD X Y X1 Y1 n sk hs) : ∃ M N, f_X2_settle_L2 1000 (0 : Int32) X1 = some M ∧ f_X11_closes_L28 1000 (0 : Int32) Y1 = some N ∧ InL X1 Y1 n n M N := by
  obtain ⟨hA, ⟨x1, x2⟩, ⟨y1, y2, y3⟩, ⟨o1, o2⟩, ⟨h1, h2⟩, ⟨r5, r6, r16, r17, r18⟩, hm⟩ := J
  obtain ⟨-, -, hS, -⟩ := h.pg
  obtain ⟨hn, hx, hy, hp, hq⟩ := id hA
  have hLk : Lk X Y n := ⟨hp, hy, hS.1.1, hS.1.2.2.1⟩
  have y1p : Y1.1 1 = Y.1 1 := y1 1 (Or.inl rfl)
  have hLk1 : Lk X Y1 n := hLk.same y1p
  have hbit : ∀ i, i < 4 → ∀ Z, f_X10_contains (gI X1 232 6) (nI i) Z = some (if outc X sk i < 3 then 0 else 1) := fun i hi Z => by
    rw [show gI X1 232 6 = bitset (accF X sk) 4 from r6, con hi]
    unfold accF
    by_cases c : outc X sk i < 3
    · rw [if_pos c, if_neg (by simpa using c)]
    · rw [if_neg c, if_pos (by simpa using c)]
  refine (fun z => z) (lpB (fun f (s : Nat × Mm) => f_X2_settle_L2 f (nI s.1) s.2) (fun f (s : Nat × Mm) => f_X11_closes_L28 f (nI s.1) s.2) (fun k s t => s.1 + k = n ∧ t.1 = s.1 ∧ InL X1 Y1 n s.1 s.2 t.2) (fun M N => InL X1 Y1 n n M N) (fun f k s t q => ?_) n (0, X1) (0, Y1) 1000 ⟨Nat.zero_add n, rfl, ⟨fun _ _ => rfl, rfl⟩, ⟨fun _ _ => rfl, rfl, fun _ _ => rfl⟩, fun j hj => ?_⟩ (by omega))
  · obtain ⟨i, M⟩ := s
    obtain ⟨i', N⟩ := t
    obtain ⟨q1, q2, q3⟩ := q
    simp only at q1 q2 q3
    subst q2
    obtain ⟨⟨m1, m2⟩, ⟨n1, n2, n3⟩, hP⟩ := id q3
    have e1 : gI M 0 1 = nI n := (congrFun ((m1 0 (fun j _ => by omega)).trans (x1 0 (by decide))) 1).trans hx
    have e2 : gI N 1 64 = nI n := (n3 64 (by omega)).trans ((congrFun y1p 64).trans hy)
    simp only [f_X2_settle_L2, f_X11_closes_L28]
    rw [e1, e2]
    by_cases c : i' = n
    · subst c
      rw [if_pos (Int32.le_refl _), if_pos (Int32.le_refl _)]
      by_cases d : (4 : Int32) ≤ nI i'
      · rw [if_pos d]; exact Or.inl ⟨_, _, rfl, rfl, q3⟩
      · rw [if_neg d]; exact Or.inl ⟨_, _, rfl, rfl, q3⟩
    · have hi : i' < n := by omega
      have i4 : i' < 4 := by omega
      rw [if_neg (show ¬ (4 : Int32) ≤ nI i' from nI_ge i4 (by decide)), if_neg (show ¬ nI n ≤ nI i' from nI_ge hi (by omega)), if_neg (show ¬ nI n ≤ nI i' from nI_ge hi (by omega)), chk_p (inb_n i4 (by decide)), show rid 50 1 (ix (nI i')) = 2 + 2 * i' by rw [show rid 50 1 (ix (nI i')) = 0 + (2 + 2 * i') from rid50 (a := 0) i4]; omega]
      have c3 : 2 + 2 * i' + 1 = 3 + 2 * i' := by omega
      have rA : M.1 (2 + 2 * i') = X.1 (2 + 2 * i') := (m1 _ (fun j hj => by omega)).trans (x1 _ (by omega))
      have rS : M.1 (3 + 2 * i') = X.1 (3 + 2 * i') := (m1 _ (fun j hj => by omega)).trans (x1 _ (by omega))
      have rO : ∀ k, 28 ≤ k → M.1 k = X1.1 k := fun k hk => m1 k (fun j hj => by omega)
      have go : gI M 236 i' = outc X sk i' := (congrFun (rO 236 (by decide)) i').trans (o1 i' i4)
      obtain ⟨M', N', f1, f2, ⟨fr1, fr2, fr3, fr4, fr5⟩, f3⟩ := s_setPath (M := M) (N := N) (i := i') i4 (hP i' hi)
        (fun Z => by rw [go, show gI M 232 6 = gI X1 232 6 from congrFun (rO 232 (by decide)) 6]; exact hbit i' i4 Z)
        (((congrFun (n1 9 (by decide)) i').trans (o2 i' hi)).trans go.symm)
        (by
          rw [show gI N 0 16 = X1.1 232 6 from (congrFun (n1 0 (by decide)) 16).trans r16, show gI M 237 i' = X1.1 237 i' from congrFun (rO 237 (by decide)) i', show gI N 13 i' = Y1.1 13 i' from congrFun (n1 13 (by decide)) i', show gJ N 12 i' = Y1.2 12 i' from congrFun (congrFun n2 12) i']
          rcases hm with ⟨a1, -, -, -, a5⟩ | ⟨a1, -, -, -, -, -, a5⟩
          · exact Or.inl ⟨a1, a5 i' i4⟩
          · refine Or.inr ⟨a1, ?_⟩
            rcases a5 i' hi with ⟨b1, -, b2⟩ | ⟨b1, b2⟩
            · exact Or.inl ⟨b1, b2⟩
            · refine Or.inr ⟨by rw [b1]; decide, ?_⟩
              rw [b2, i_eq, Int64.toInt_toInt32, Int32.toInt_toInt64]
              have := i_rng (X1.1 237 i')
              rw [fb_bmod (by omega) (by omega)])
        (t0 := tm X 0 i') (t1 := tm X 1 i')
        (by rw [c3, gI_1, gI_1, gI_1, rS, rA, show M.1 234 i' = shf X 0 i' from (congrFun (rO 234 (by decide)) i').trans (h1 i' i4).1]; rfl)
        (by rw [c3, gI_1, gI_1, gI_1, rS, rA, show M.1 235 i' = shf X 1 i' from (congrFun (rO 235 (by decide)) i').trans (h1 i' i4).2]; rfl)
        (fun q => by
          rw [go] at q
          obtain ⟨a1, a2⟩ := acc_tm hLk hi hk q
          have tc : ∀ w, w < 2 → f_X11_timeOf (nI i') (nI w) N = f_X11_timeOf (nI i') (nI w) Y1 := fun w hw => timeOf_congr i4 hw (fun j hj => n3 _ (by omega)) (n1 10 (by decide))
          refine ⟨?_, ?_, ?_, ?_⟩
          · rw [show (0 : Int32) = nI 0 from rfl, tc 0 (by decide)]
            exact y_timeOf hLk1 hn (by decide) hi a1 (h2 i' hi).1
          · rw [show (1 : Int32) = nI 1 from rfl, tc 1 (by decide)]
            exact y_timeOf hLk1 hn (by decide) hi a1 (h2 i' hi).2
          · rw [rA]; exact a2 0 (by decide)
          · rw [rA]; exact a2 1 (by decide))
        (fun q => by
          rw [go] at q
          rw [show gJ N 0 19 = Y1.2 0 19 from congrFun (congrFun n2 0) 19, show gI M 237 i' = X1.1 237 i' from congrFun (rO 237 (by decide)) i', show gI M 232 9 = X1.1 232 9 from congrFun (rO 232 (by decide)) 9, show gJ N 12 i' = Y1.2 12 i' from congrFun (congrFun n2 12) i']
          rcases hm with ⟨a1, -, -, -, a5⟩ | ⟨a1, -, a3, -, -, -, a5⟩
          · exfalso
            have := bitset_0.mp (r6.symm.trans a1) i' i4
            unfold accF at this
            rw [decide_eq_true q] at this
            exact absurd this (by decide)
          · rcases a5 i' hi with ⟨-, b1, -⟩ | ⟨-, b2⟩
            · exact absurd b1 q
            · exact ⟨a3, b2⟩)
      rw [f1, f2, ob1_s, ob1_s, lt1_s, lt1_s, ← nI_succ]
      refine Or.inr ⟨k - 1, (i' + 1, M'), (i' + 1, N'), by omega, ⟨by show i' + 1 + (k - 1) = n; omega, rfl, ⟨fun k hk' => (fr1 k (hk' i' (by omega))).trans (m1 k (fun j hj => hk' j (by omega))), fr2.trans m2⟩, ⟨fun a ha => (fr3 a ha).trans (n1 a ha), fr4.trans n2, fun k hk' => (fr5 k (by have : 16 * (i' + 1) ≤ k := hk'; omega)).trans (n3 k (by have : 16 * (i' + 1) ≤ k := hk'; omega))⟩, fun j hj => ?_⟩, rfl, rfl⟩
      by_cases e : j = i'
      · subst e; exact f3
      · show PL (M'.1 (2 + 2 * j)) (M'.1 (3 + 2 * j)) (fun k => N'.1 1 (16 * j + k))
        rw [fr1 _ (by omega), fr1 _ (by omega)]
        exact PL_congr (fun _ _ => rfl) (fun _ _ => rfl) (fun k hk' => fr5 _ (by omega)) (hP j hj)
  · show PL (X1.1 (2 + 2 * j)) (X1.1 (3 + 2 * j)) (fun k => Y1.1 1 (16 * j + k))
    rw [x1 _ (by omega), x1 _ (by omega), y1p]
    exact hp j hj

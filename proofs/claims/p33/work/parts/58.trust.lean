/-! IDEAL TIMES, TRUST, TOTALS -/
theorem tdiv_bnd {a c L : Int} (hL : 0 < L) (h1 : -(c * L) ≤ a) (h2 : a ≤ c * L) : -c ≤ a.tdiv L ∧ a.tdiv L ≤ c := by
  have key : ∀ b : Int, 0 ≤ b → b ≤ c * L → 0 ≤ b.tdiv L ∧ b.tdiv L ≤ c := fun b hb hc => by
    rw [Int.tdiv_eq_ediv_of_nonneg hb]
    exact ⟨Int.ediv_nonneg hb (by omega), Int.ediv_le_of_le_mul hL hc⟩
  rcases Int.le_total 0 a with q | q
  · obtain ⟨k1, k2⟩ := key a q h2
    omega
  · obtain ⟨k1, k2⟩ := key (-a) (by omega) (by omega)
    rw [Int.neg_tdiv] at k1 k2
    omega
theorem along {F A L : Int32} (hF : -20000 ≤ F ∧ F ≤ 20000) (hA : 10 ≤ A ∧ A ≤ L) (hL : 50 ≤ L ∧ L ≤ 2000) : Int32.toInt64 (F * A / L) = Int32.toInt64 F * Int32.toInt64 A / Int32.toInt64 L ∧ -20000 ≤ (F * A / L).toInt ∧ (F * A / L).toInt ≤ 20000 := by
  obtain ⟨f1, f2⟩ := hF
  obtain ⟨a1, a2⟩ := hA
  obtain ⟨l1, l2⟩ := hL
  rw [i_le] at f1 f2 a1 a2 l1 l2
  have e1 : (-20000 : Int32).toInt = -20000 := rfl
  have e2 : (20000 : Int32).toInt = 20000 := rfl
  have e3 : (10 : Int32).toInt = 10 := rfl
  have e4 : (50 : Int32).toInt = 50 := rfl
  have e5 : (2000 : Int32).toInt = 2000 := rfl
  rw [e1] at f1; rw [e2] at f2; rw [e3] at a1; rw [e4] at l1; rw [e5] at l2
  have p1 : F.toInt * A.toInt ≤ 20000 * A.toInt := Int.mul_le_mul_of_nonneg_right f2 (by omega)
  have p2 : -20000 * A.toInt ≤ F.toInt * A.toInt := Int.mul_le_mul_of_nonneg_right f1 (by omega)
  have m : (F * A).toInt = F.toInt * A.toInt := fb_mulI (by omega) (by omega)
  have nL : L ≠ -1 := fun q => by rw [q] at l1; revert l1; decide
  have nL2 : Int32.toInt64 L ≠ -1 := fun q => by
    have := congrArg Int64.toInt q
    rw [Int32.toInt_toInt64] at this
    have e : (-1 : Int64).toInt = -1 := rfl
    omega
  have d : (F * A / L).toInt = (F.toInt * A.toInt).tdiv L.toInt := by rw [Int32.toInt_div_of_ne_right _ _ nL, m]
  obtain ⟨b1, b2⟩ := tdiv_bnd (a := F.toInt * A.toInt) (c := 20000) (L := L.toInt) (by omega) (by omega) (by omega)
  refine ⟨?_, by omega, by omega⟩
  rw [j_eq, Int32.toInt_toInt64, d, Int64.toInt_div_of_ne_right _ _ nL2, fb_mulL, Int32.toInt_toInt64, Int32.toInt_toInt64, Int32.toInt_toInt64]
  · rw [Int32.toInt_toInt64, Int32.toInt_toInt64]; omega
  · rw [Int32.toInt_toInt64, Int32.toInt_toInt64]; omega
theorem along_neg {F A L : Int32} (hF : -20000 ≤ F ∧ F ≤ 20000) (hA : 10 ≤ A ∧ A ≤ L) (hL : 50 ≤ L ∧ L ≤ 2000) : Int32.toInt64 (-(F * A / L)) = Int32.toInt64 (-F) * Int32.toInt64 A / Int32.toInt64 L ∧ -20000 ≤ (-(F * A / L)).toInt ∧ (-(F * A / L)).toInt ≤ 20000 := by
  have e1 : (-20000 : Int32).toInt = -20000 := rfl
  have e2 : (20000 : Int32).toInt = 20000 := rfl
  have hf := hF
  rw [i_le, i_le] at hf
  have nF : (-F).toInt = -F.toInt := fb_negI (by omega)
  obtain ⟨g1, g2, g3⟩ := along (F := -F) (by rw [i_le, i_le]; omega) hA hL
  obtain ⟨k1, k2, k3⟩ := along hF hA hL
  have n2 : (-(F * A / L)).toInt = -(F * A / L).toInt := fb_negI (by omega)
  refine ⟨?_, by omega, by omega⟩
  rw [← g1]
  refine congrArg Int32.toInt64 ?_
  rw [i_eq, n2]
  have d1 := congrArg Int64.toInt k1
  have d2 := congrArg Int64.toInt g1
  obtain ⟨a1, a2⟩ := hA
  obtain ⟨l1, l2⟩ := hL
  rw [i_le] at a1 a2 l1 l2
  have e3 : (10 : Int32).toInt = 10 := rfl
  have e4 : (50 : Int32).toInt = 50 := rfl
  have e5 : (2000 : Int32).toInt = 2000 := rfl
  have nL : L ≠ -1 := fun q => by rw [q] at l1; revert l1; decide
  have p1 : F.toInt * A.toInt ≤ 20000 * A.toInt := Int.mul_le_mul_of_nonneg_right (by omega) (by omega)
  have p2 : -20000 * A.toInt ≤ F.toInt * A.toInt := Int.mul_le_mul_of_nonneg_right (by omega) (by omega)
  rw [Int32.toInt_div_of_ne_right _ _ nL, Int32.toInt_div_of_ne_right _ _ nL, fb_mulI (by omega) (by omega), fb_mulI (by rw [nF, Int.neg_mul]; omega) (by rw [nF, Int.neg_mul]; omega), nF, Int.neg_mul, Int.neg_tdiv]
theorem s_ideal (x1 x2 x3 x4 : Int32) {X Y : Mm} (h : Rel X Y) : ∃ r, f_X10_ideal x1 x2 x3 x4 X = some r ∧ f_X11_ideal x1 x2 x3 x4 Y = some r := by
  obtain ⟨⟨n, hn, hx, hy, hp, -⟩, -⟩ := h.pg
  unfold f_X10_ideal f_X11_ideal
  rcases path_c hn hx hy x1 with ⟨i, hi, rfl, e1, e2⟩ | ⟨e1, e2⟩
  · have i4 : i < 4 := by omega
    obtain ⟨⟨⟨l1, l2, l3, l4⟩, -, -, d0, d1⟩, ⟨b0, b1, -, -, b4⟩, -⟩ := hp i hi
    have b0' : Y.1 1 (16 * i + 0) = X.1 (2 + 2 * i) 0 := b0
    have b1' : Y.1 1 (16 * i + 1) = X.1 (2 + 2 * i) 1 := b1
    have b4' : Y.1 1 (16 * i + 4) = X.1 (2 + 2 * i) 4 := b4
    rw [e1, e2, ob1_s, ob1_s, onl_s, chk_p (ks_path i4), if_neg one_0]
    rcases in_c x2 300 3000 X Y with ⟨w1, w2, -⟩ | ⟨w1, w2, s1, s2⟩
    · rw [w1, w2]; exact ⟨_, rfl, rfl⟩
    rw [w1, w2, ob1_s, ob1_s, if_neg one_0, if_neg one_0]
    rcases in_c x3 (-20000) 20000 X Y with ⟨w1, w2, -⟩ | ⟨w1, w2, s3, s4⟩
    · rw [w1, w2]; exact ⟨_, rfl, rfl⟩
    rw [w1, w2, ob1_s, ob1_s, if_neg one_0, if_neg one_0, yof1 i4, yof0 i4, yof4 i4]
    have n0 : ¬ X.1 (2 + 2 * i) 0 = 0 := fun q => by rw [q] at l1; revert l1; decide
    have n0' : ¬ Int32.toInt64 (X.1 (2 + 2 * i) 0) = 0 := pos_ne l1 (by decide)
    simp only [ob1_s, lt1_s]
    rw [b0', b1', b4', chk_p (show decide _ = true from decide_eq_true n0)]
    unfold f_X3_idealTime
    rw [show gI X (2 + 2 * i) 0 = X.1 (2 + 2 * i) 0 from rfl, show gI X (2 + 2 * i) 1 = X.1 (2 + 2 * i) 1 from rfl, show gI X (2 + 2 * i) 4 = X.1 (2 + 2 * i) 4 from rfl]
    have fin : ∀ z y : Int32, Int32.toInt64 z = Int32.toInt64 y * Int32.toInt64 (X.1 (2 + 2 * i) 1) / Int32.toInt64 (X.1 (2 + 2 * i) 0) → -20000 ≤ z.toInt → z.toInt ≤ 20000 → ∃ r, (ob1 (ob1 (f_X10_quotient (Int32.toInt64 y * Int32.toInt64 (X.1 (2 + 2 * i) 1)) (Int32.toInt64 (X.1 (2 + 2 * i) 0)) X) fun r_1 => lt1 ((Int32.toInt64 x2 * (1000 : Int64)) + r_1) fun x3_2 => ob1 (f_X10_quotient (Int32.toInt64 (X.1 (2 + 2 * i) 0) * (1000000000 : Int64)) x3_2 X) fun r_3 => some ((Int64.toInt32 r_3) + X.1 (2 + 2 * i) 4)) fun r => some r) = some r ∧ (chk (decide (¬ Int32.toInt64 x2 * (1000 : Int64) + Int32.toInt64 z = 0)) (some (Int64.toInt32 (Int32.toInt64 (X.1 (2 + 2 * i) 0) * (1000000000 : Int64) / (Int32.toInt64 x2 * (1000 : Int64) + Int32.toInt64 z)) + X.1 (2 + 2 * i) 4))) = some r := by
      intro z y hz z1 z2
      have nz : ¬ Int32.toInt64 x2 * (1000 : Int64) + Int32.toInt64 z = 0 := by
        intro q
        rw [i_le] at s1 s2
        have e1 : (300 : Int32).toInt = 300 := rfl
        have e2 : (3000 : Int32).toInt = 3000 := rfl
        have e3 : (1000 : Int64).toInt = 1000 := rfl
        have m : (Int32.toInt64 x2 * (1000 : Int64)).toInt = x2.toInt * 1000 := by rw [fb_mulL, Int32.toInt_toInt64, e3] <;> (rw [Int32.toInt_toInt64, e3]; omega)
        rw [j_eq, fb_addL, m, Int32.toInt_toInt64, show (0 : Int64).toInt = 0 from rfl] at q
        · omega
        · rw [m, Int32.toInt_toInt64]; omega
        · rw [m, Int32.toInt_toInt64]; omega
      rw [chk_p (show decide _ = true from decide_eq_true nz), quot n0', ob1_s, lt1_s, ← hz, quot nz]
      exact ⟨_, rfl, rfl⟩
    by_cases c : x4 = 0
    · rw [if_pos c, if_pos c, ob1_s, ob1_s]
      obtain ⟨k1, k2, k3⟩ := along ⟨s3, s4⟩ ⟨l3, l4⟩ ⟨l1, l2⟩
      exact fin _ _ k1 k2 k3
    · rw [if_neg c, if_neg c, ob1_s, ob1_s]
      obtain ⟨k1, k2, k3⟩ := along_neg ⟨s3, s4⟩ ⟨l3, l4⟩ ⟨l1, l2⟩
      exact fin _ _ k1 k2 k3
  · rw [e1, e2, ob1_s, ob1_s, onl_n, if_pos rfl]
    exact ⟨_, rfl, rfl⟩
theorem s_ahead {X Y : Mm} {i j : Nat} (hi : i < 4) (hj : j < 4) (hLi : PL (X.1 (2 + 2 * i)) (X.1 (3 + 2 * i)) (fun k => Y.1 1 (16 * i + k))) (hLj : PL (X.1 (2 + 2 * j)) (X.1 (3 + 2 * j)) (fun k => Y.1 1 (16 * j + k))) :
    ∃ r, f_X3_isTrustedBefore (2 + 2 * j) (2 + 2 * i) (if nI i ≤ nI j then 0 else 1) X = some r ∧ f_X11_isAhead (nI j) (nI i) Y = some r := by
  obtain ⟨-, ⟨-, -, i2, -⟩, -, -, ⟨-, -, i10, i11, i12⟩, -⟩ := hLi
  obtain ⟨-, ⟨-, -, j2, -⟩, -, -, ⟨-, -, j10, j11, j12⟩, -⟩ := hLj
  have i2' : Y.1 1 (16 * i + 2) = gI X (2 + 2 * i) 2 := i2
  have i10' : Y.1 1 (16 * i + 10) = gI X (2 + 2 * i) 12 := i10
  have i11' : Y.1 1 (16 * i + 11) = gI X (2 + 2 * i) 13 := i11
  have i12' : Y.1 1 (16 * i + 12) = gI X (2 + 2 * i) 14 := i12
  have j2' : Y.1 1 (16 * j + 2) = gI X (2 + 2 * j) 2 := j2
  have j10' : Y.1 1 (16 * j + 10) = gI X (2 + 2 * j) 12 := j10
  have j11' : Y.1 1 (16 * j + 11) = gI X (2 + 2 * j) 13 := j11
  have j12' : Y.1 1 (16 * j + 12) = gI X (2 + 2 * j) 14 := j12
  have fx : ∀ k, ∃ r, f_X3_fails k X = some r ∧ (if gI X k 12 < 3 then some (0 : Int32) else some 1) = some r ∧ bz r = true := fun k => by
    unfold f_X3_fails
    by_cases c : gI X k 12 < 3
    · exact ⟨0, if_pos c, if_pos c, rfl⟩
    · exact ⟨1, if_neg c, if_neg c, rfl⟩
  obtain ⟨ri, ri1, ri2, ri3⟩ := fx (2 + 2 * i)
  obtain ⟨rj, rj1, rj2, rj3⟩ := fx (2 + 2 * j)
  unfold f_X3_isTrustedBefore f_X11_isAhead f_X11_fails
  rw [yof10 hi, yof10 hj, yof11 hi, yof11 hj, yof12 hi, yof12 hj, yof2 hi, yof2 hj]
  simp only [ob1_s, lt1_s]
  rw [i2', i10', i11', i12', j2', j10', j11', j12', ri1, rj1, ri2, rj2]
  simp only [ob1_s]
  by_cases c : rj = ri
  · rw [if_pos c, if_pos c]
    by_cases c2 : gI X (2 + 2 * j) 12 = gI X (2 + 2 * i) 12
    · rw [if_pos c2, if_pos c2]
      by_cases c3 : gI X (2 + 2 * j) 13 + gI X (2 + 2 * j) 14 = gI X (2 + 2 * i) 13 + gI X (2 + 2 * i) 14
      · rw [if_pos c3, if_pos c3]
        by_cases c4 : gI X (2 + 2 * j) 2 = gI X (2 + 2 * i) 2
        · rw [if_pos c4, if_pos c4]
          by_cases c5 : nI i ≤ nI j
          · rw [if_pos c5, if_pos c5]; exact ⟨0, rfl, rfl⟩
          · rw [if_neg c5, if_neg c5]; exact ⟨1, rfl, rfl⟩
        · rw [if_neg c4, if_neg c4]
          by_cases c5 : gI X (2 + 2 * j) 2 ≤ gI X (2 + 2 * i) 2
          · rw [if_pos c5]; exact ⟨0, rfl, rfl⟩
          · rw [if_neg c5]; exact ⟨1, rfl, rfl⟩
      · rw [if_neg c3, if_neg c3]
        by_cases c5 : gI X (2 + 2 * i) 13 + gI X (2 + 2 * i) 14 ≤ gI X (2 + 2 * j) 13 + gI X (2 + 2 * j) 14
        · rw [if_pos c5]; exact ⟨0, rfl, rfl⟩
        · rw [if_neg c5]; exact ⟨1, rfl, rfl⟩
    · rw [if_neg c2, if_neg c2]
      by_cases c5 : gI X (2 + 2 * i) 12 ≤ gI X (2 + 2 * j) 12
      · rw [if_pos c5]; exact ⟨0, rfl, rfl⟩
      · rw [if_neg c5]; exact ⟨1, rfl, rfl⟩
  · rw [if_neg c, if_neg c, chk_p ri3]
    exact ⟨ri, rfl, rfl⟩
theorem s_place {X Y : Mm} {n : Nat} (hA : PA n X.1 (Y.1 1)) {i : Nat} (hi : i < n) : ∃ r, f_X8_placeInTrust (nI i) X = some r ∧ f_X11_trust_L25 Y (nI i) 1000 (0 : Int32) (0 : Int32) = some r := by
  obtain ⟨hn, hx, hy, hp, -⟩ := hA
  have hx' : gI X 0 1 = nI n := hx
  have hy' : gI Y 1 64 = nI n := hy
  have hpa : f_X8_pathAt (nI i) X = some (some (2 + 2 * i)) := by
    rcases path_c hn hx hy (nI i) with ⟨q, hq, e, e1, -⟩ | ⟨-, e2⟩
    · obtain rfl := (nI_eq (by omega) (by omega)).mp e
      exact e1
    · exfalso
      unfold f_X11_isPath f_X11_in at e2
      rw [hy', if_neg (nI_pos (by omega)), if_neg (show ¬ nI n - 1 < nI i by
        rw [show nI n - (1 : Int32) = nI (n - 1) from nI_sub (b := 1) (by omega)]
        exact nI_nlt (by omega) (by omega))] at e2
      revert e2
      decide
  obtain ⟨b, c, hb, hc, rfl⟩ := lpB (fun f (s : Int32 × Int32) => f_X8_placeInTrust_L11_2 X (nI i) (2 + 2 * i) f s.1 s.2) (fun f (s : Int32 × Int32) => f_X11_trust_L25 Y (nI i) f s.1 s.2) (fun k (s t : Int32 × Int32) => s = t ∧ ∃ j, j + k = n ∧ s.2 = nI j) (fun b c => b = c) (fun f k s t hI => by
    obtain ⟨rfl, j, hj, hs⟩ := hI
    obtain ⟨v, x⟩ := s
    obtain rfl : x = nI j := hs
    show (∃ b c, f_X8_placeInTrust_L11_2 X (nI i) (2 + 2 * i) (f + 1) v (nI j) = some b ∧ f_X11_trust_L25 Y (nI i) (f + 1) v (nI j) = some c ∧ b = c) ∨ (∃ (k' : Nat) (s' t' : Int32 × Int32), k = k' + 1 ∧ (s' = t' ∧ ∃ j, j + k' = n ∧ s'.2 = nI j) ∧ f_X8_placeInTrust_L11_2 X (nI i) (2 + 2 * i) (f + 1) v (nI j) = f_X8_placeInTrust_L11_2 X (nI i) (2 + 2 * i) f s'.1 s'.2 ∧ f_X11_trust_L25 Y (nI i) (f + 1) v (nI j) = f_X11_trust_L25 Y (nI i) f t'.1 t'.2)
    rw [f_X8_placeInTrust_L11_2, f_X11_trust_L25, hx', hy']
    rcases Nat.eq_zero_or_pos k with e | e
    · subst e
      obtain rfl : j = n := by omega
      refine Or.inl ⟨v, v, ?_, ?_, rfl⟩
      · by_cases c4 : (4 : Int32) ≤ nI j
        · rw [if_pos c4]
        · rw [if_neg c4, if_pos (nI_le (Nat.le_refl _) (by omega))]
      · rw [if_pos (nI_le (Nat.le_refl _) (by omega))]
    · have hjn : j < n := by omega
      rw [if_neg (show ¬ (4 : Int32) ≤ nI j from nI_ge (b := 4) (by omega) (by decide)), if_neg (nI_ge hjn (by omega)), if_neg (nI_ge hjn (by omega))]
      by_cases cj : nI j = nI i
      · refine Or.inr ⟨k - 1, (v, nI (j + 1)), (v, nI (j + 1)), by omega, ⟨rfl, j + 1, by omega, rfl⟩, ?_, ?_⟩
        · rw [if_pos cj, ob1_s, lt1_s, nI_succ]
        · rw [if_pos cj, ob1_s, lt1_s, lt1_s, nI_succ, Int32.add_zero]
      · obtain ⟨r, r1, r2⟩ := s_ahead (X := X) (Y := Y) (i := i) (j := j) (by omega) (by omega) (hp i hi) (hp j hjn)
        have r1' := r1
        rw [if_neg cj, if_neg cj, chk_p (inb_n (by omega) (by decide)), ob1_if, show rid 50 1 (ix (nI j)) = 2 + 2 * j from (rid50 (a := 0) (i := j) (by omega)).trans (Nat.zero_add _), r1, r2, ob1_s, ob1_s]
        by_cases cr : r = 0
        · refine Or.inr ⟨k - 1, (v, nI (j + 1)), (v, nI (j + 1)), by omega, ⟨rfl, j + 1, by omega, rfl⟩, ?_, ?_⟩
          · rw [if_pos cr, ob1_s, lt1_s, nI_succ]
          · rw [if_pos cr, ob1_s, lt1_s, lt1_s, nI_succ, Int32.add_zero]
        · refine Or.inr ⟨k - 1, (v + 1, nI (j + 1)), (v + 1, nI (j + 1)), by omega, ⟨rfl, j + 1, by omega, rfl⟩, ?_, ?_⟩
          · rw [if_neg cr, lt1_s, ob1_s, lt1_s, nI_succ]
          · rw [if_neg cr, ob1_s, lt1_s, lt1_s, nI_succ]) n ((0 : Int32), (0 : Int32)) ((0 : Int32), (0 : Int32)) 1000 ⟨rfl, 0, by omega, rfl⟩ (by omega)
  refine ⟨b, ?_, hc⟩
  unfold f_X8_placeInTrust
  rw [hpa, ob1_s, onl_s, chk_p (ks_path (by omega)), show f_X8_placeInTrust_L11_2 X (nI i) (2 + 2 * i) 1000 (0 : Int32) (0 : Int32) = some b from hb]
  rfl
theorem s_trust (x1 : Int32) {X Y : Mm} (h : Rel X Y) : ∃ r, f_X10_trust x1 X = some r ∧ f_X11_trust x1 Y = some r := by
  obtain ⟨⟨n, hA⟩, -⟩ := h.pg
  obtain ⟨hn, hx, hy, hp, -⟩ := id hA
  have hx' : gI X 0 1 = nI n := hx
  have hy' : gI Y 1 64 = nI n := hy
  unfold f_X10_trust f_X11_trust
  by_cases h0 : (0 : Int32) ≤ x1
  · rw [if_pos h0, if_pos h0]
    obtain ⟨b, c, hb, hc, rfl⟩ := lpB (fun f s => f_X10_trust_L9 X x1 f s) (fun f s => f_X11_trust_L9 Y x1 f s) (fun k s t => s = t ∧ ∃ j, j + k = n ∧ s = nI j) (fun b c => b = c) (fun f k s t hI => by
      obtain ⟨rfl, j, hj, rfl⟩ := hI
      show (∃ b c, f_X10_trust_L9 X x1 (f + 1) (nI j) = some b ∧ f_X11_trust_L9 Y x1 (f + 1) (nI j) = some c ∧ b = c) ∨ (∃ k' s' t', k = k' + 1 ∧ (s' = t' ∧ ∃ j, j + k' = n ∧ s' = nI j) ∧ f_X10_trust_L9 X x1 (f + 1) (nI j) = f_X10_trust_L9 X x1 f s' ∧ f_X11_trust_L9 Y x1 (f + 1) (nI j) = f_X11_trust_L9 Y x1 f t')
      rw [f_X10_trust_L9, f_X11_trust_L9, hx', hy']
      rcases Nat.eq_zero_or_pos k with e | e
      · subst e
        obtain rfl : j = n := by omega
        refine Or.inl ⟨-2000000005, -2000000005, ?_, ?_, rfl⟩
        · by_cases c4 : (4 : Int32) ≤ nI j
          · rw [if_pos c4]
          · rw [if_neg c4, if_pos (nI_le (Nat.le_refl _) (by omega))]
        · rw [if_pos (nI_le (Nat.le_refl _) (by omega))]
      · have hjn : j < n := by omega
        obtain ⟨r, r1, r2⟩ := s_place hA hjn
        rw [if_neg (show ¬ (4 : Int32) ≤ nI j from nI_ge (b := 4) (by omega) (by decide)), if_neg (nI_ge hjn (by omega)), if_neg (nI_ge hjn (by omega)), r1, r2, ob1_s, ob1_s]
        by_cases cr : r = x1
        · rw [if_pos cr, if_pos cr]
          exact Or.inl ⟨_, _, rfl, rfl, rfl⟩
        · rw [if_neg cr, if_neg cr, lt1_s, lt1_s, nI_1]
          exact Or.inr ⟨k - 1, nI (j + 1), nI (j + 1), by omega, ⟨rfl, j + 1, by omega, rfl⟩, rfl, rfl⟩) n (0 : Int32) (0 : Int32) 1000 ⟨rfl, 0, by omega, rfl⟩ (by omega)
    exact ⟨b, hb, hc⟩
  · rw [if_neg h0, if_neg h0]
    exact ⟨_, rfl, rfl⟩

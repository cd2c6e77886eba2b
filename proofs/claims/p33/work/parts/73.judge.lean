/-! JUDGING, 7: both sides, whole -/
theorem sw_cw {fl : Nat → Bool} {v : Nat → Int64} {w w' : Nat → Int32} : ∀ n : Nat, (∀ i, i < n → w i = w' i) → swv fl v w n = swv fl v w' n ∧ sww fl w n = sww fl w' n := by
  intro n
  induction n with
  | zero => intro _; exact ⟨rfl, rfl⟩
  | succ n ih =>
    intro h
    obtain ⟨i1, i2⟩ := ih (fun i hi => h i (by omega))
    constructor
    · show (if fl n = true then swv fl v w n + Int32.toInt64 (w n) * v n else swv fl v w n) = if fl n = true then swv fl v w' n + Int32.toInt64 (w' n) * v n else swv fl v w' n
      rw [i1, h n (by omega)]
    · show (if fl n = true then sww fl w n + Int32.toInt64 (w n) else sww fl w n) = if fl n = true then sww fl w' n + Int32.toInt64 (w' n) else sww fl w' n
      rw [i2, h n (by omega)]
theorem sub64_b {X : Mm} {m : Int32} {i : Nat} (h1 : -100000 ≤ m.toInt) (h2 : m.toInt ≤ 100000) (a1 : -5000 ≤ (X.1 (2 + 2 * i) 9).toInt) (a2 : (X.1 (2 + 2 * i) 9).toInt ≤ 5000) : -500000 ≤ (sub64 X m i).toInt ∧ (sub64 X m i).toInt ≤ 500000 := by
  have p : ∀ a b : Int, -100000 ≤ a → a ≤ 100000 → -5000 ≤ b → b ≤ 5000 → -500000000 ≤ a * b ∧ a * b ≤ 500000000 := fun a b c1 c2 c3 c4 => by
    rcases Int.le_total 0 a with q | q
    · have m1 : a * b ≤ a * 5000 := Int.mul_le_mul_of_nonneg_left c4 q
      have m2 : a * (-5000) ≤ a * b := Int.mul_le_mul_of_nonneg_left c3 q
      omega
    · have m1 : (-a) * b ≤ (-a) * 5000 := Int.mul_le_mul_of_nonneg_left c4 (by omega)
      have m2 : (-a) * (-5000) ≤ (-a) * b := Int.mul_le_mul_of_nonneg_left c3 (by omega)
      simp only [Int.neg_mul] at m1 m2
      omega
  obtain ⟨p1, p2⟩ := p _ _ h1 h2 a1 a2
  have m1 : (Int32.toInt64 m * Int32.toInt64 (X.1 (2 + 2 * i) 9)).toInt = m.toInt * (X.1 (2 + 2 * i) 9).toInt := by rw [fb_mulL] <;> rw [Int32.toInt_toInt64, Int32.toInt_toInt64] <;> omega
  unfold sub64
  rw [Int64.toInt_div_of_ne_right _ _ (by decide), m1, show (1000 : Int64).toInt = 1000 from rfl]
  exact tdiv_bnd (by decide) (by omega) (by omega)
def JD (X Y X' Y' : Mm) (n : Nat) (sk hs : Int32) : Prop :=
  PA n X.1 (Y.1 1) ∧ ((∀ k, k < 232 → X'.1 k = X.1 k) ∧ X'.2 = X.2) ∧ ((∀ k, k = 1 ∨ (2 ≤ k ∧ k < 9) ∨ 15 ≤ k → Y'.1 k = Y.1 k) ∧ (∀ j, j < 15 ∨ 19 ≤ j → Y'.1 0 j = Y.1 0 j) ∧ ∀ k, k ≠ 0 → k ≠ 12 → Y'.2 k = Y.2 k) ∧
  ((∀ i, i < 4 → X'.1 236 i = outc X sk i) ∧ ∀ i, i < n → Y'.1 9 i = outc X sk i) ∧ ((∀ i, i < 4 → X'.1 234 i = shf X 0 i ∧ X'.1 235 i = shf X 1 i) ∧ ∀ i, i < n → Y'.1 10 (2 * i) = shf X 0 i ∧ Y'.1 10 (2 * i + 1) = shf X 1 i) ∧
  (X'.1 232 5 = Y'.1 0 15 ∧ X'.1 232 6 = bitset (accF X sk) 4 ∧ Y'.1 0 16 = X'.1 232 6 ∧ Y'.1 0 17 = X'.1 232 7 ∧ Y'.1 0 18 = X'.1 232 8) ∧
  ((X'.1 232 6 = 0 ∧ hs = 0 ∧ X'.1 232 9 = -2000000005 ∧ X'.1 232 10 = -2000000005 ∧ ∀ i, i < 4 → X'.1 237 i = -2000000005) ∨
   (¬ X'.1 232 6 = 0 ∧ hs = 1 ∧ Y'.2 0 19 = Int32.toInt64 (X'.1 232 9) ∧ (-500000 ≤ (X'.1 232 9).toInt ∧ (X'.1 232 9).toInt ≤ 500000) ∧ f_X11_roundVelocity Y' = some (X'.1 232 10) ∧ (-1000000 ≤ X'.1 232 10 ∧ X'.1 232 10 ≤ 1000000) ∧ ∀ i, i < n → (Y'.1 13 i = 0 ∧ outc X sk i < 3 ∧ X'.1 237 i = -2000000005) ∨ (Y'.1 13 i = 1 ∧ Y'.2 12 i = Int32.toInt64 (X'.1 237 i))))
theorem s_judge {X Y : Mm} (h : Rel X Y) {sk : Int32} (hk : sk ≤ 5) : ∃ X' Y' n hs, f_X2_judge sk X = some X' ∧ f_X11_worksOut sk Y = some (hs, Y') ∧ JD X Y X' Y' n sk hs := by
  obtain ⟨⟨n, hA⟩, ⟨nf, hF⟩, hS, -⟩ := h.pg
  obtain ⟨hn, hx, hy, hp, hq⟩ := id hA
  have hPth := hA.pth
  have hq0 : ∀ i, n ≤ i → i < 4 → hvI X i = 0 := fun i h1 h2 => (hPth.2.2 i h1 h2).1
  have hLk : Lk X Y n := ⟨hp, hy, hS.1.1, hS.1.2.2.1⟩
  -- the class: shifts and votes
  obtain ⟨X1, ex1, a1, a2, a3⟩ := x_shifts hPth
  obtain ⟨X2, ex2, b1, b2, b3⟩ := x_vote (X := X) (M := X1) (w := 0) (a := 234) (Or.inl rfl) (fun i hi => congrFun (a2 _ (by omega) (by omega) (by omega)) 2) (congrFun (a2 13 (by decide) (by decide) (by decide)) 2) (fun i hi => (a1 i hi).1) (fun i hi => (a1 i hi).2.1)
  obtain ⟨X3, ex3, c1, c2, c3⟩ := x_vote (X := X) (M := X2) (w := 1) (a := 235) (Or.inr rfl) (fun i hi => congrFun ((b2 _ (by omega)).trans (a2 _ (by omega) (by omega) (by omega))) 2) (congrFun ((b2 13 (by decide)).trans (a2 13 (by decide) (by decide) (by decide))) 2) (fun i hi => (congrFun (b2 233 (by decide)) i).trans (a1 i hi).1) (fun i hi => (congrFun (b2 235 (by decide)) i).trans (a1 i hi).2.2)
  have x3o : ∀ k, k ≠ 233 → k ≠ 234 → k ≠ 235 → X3.1 k = X.1 k := fun k k1 k2 k3 => (c2 k k3).trans ((b2 k k2).trans (a2 k k1 k2 k3))
  have x3j : X3.2 = X.2 := c3.trans (b3.trans a3)
  have x3s0 : ∀ i, i < 4 → X3.1 234 i = shf X 0 i := fun i hi => (congrFun (c2 234 (by decide)) i).trans (b1 i hi)
  obtain ⟨X5, ex5, d1, d6, d7, d8, d9, d10⟩ := x_dec (X := X) (Y := Y) (M := wI X3 232 5 (nI (cn X 0 4) + nI (cn X 1 4))) (n := n) (sk := sk) hLk hn (fun i h1 h2 => (hq i h1 h2).2.2.2.2.2.2.2) hk (fun k hk' => (wI_o (by omega)).trans (x3o k (by omega) (by omega) (by omega))) (fun i hi => (congrFun (wI_o (by decide)) i).trans (x3s0 i hi)) (fun i hi => (congrFun (wI_o (by decide)) i).trans (c1 i hi))
  have x5o : ∀ k, k < 232 → X5.1 k = X.1 k := fun k hk' => (d9 k (by omega) (by omega) (by omega)).trans ((wI_o (by omega)).trans (x3o k (by omega) (by omega) (by omega)))
  have x5s0 : ∀ i, i < 4 → X5.1 234 i = shf X 0 i := fun i hi => (congrFun ((d9 234 (by decide) (by decide) (by decide)).trans (wI_o (by decide))) i).trans (x3s0 i hi)
  have x5s1 : ∀ i, i < 4 → X5.1 235 i = shf X 1 i := fun i hi => (congrFun ((d9 235 (by decide) (by decide) (by decide)).trans (wI_o (by decide))) i).trans (c1 i hi)
  have x55 : X5.1 232 5 = nI (cn X 0 4) + nI (cn X 1 4) := (d8 5 (by decide) (by decide)).trans wI_e
  -- the reference: shifts and votes
  obtain ⟨Y1, ey1, e1, e2, e3⟩ := y_shifts (X := X) (Y := wI (wI (wI (wI Y 0 15 0) 0 16 0) 0 17 0) 0 18 0) (n := n) (hLk.same (by rw [wI_o (by decide), wI_o (by decide), wI_o (by decide), wI_o (by decide)])) hn
  have y1p : Y1.1 1 = Y.1 1 := (e2 1 (by decide) (by decide) (by decide)).trans (by rw [wI_o (by decide), wI_o (by decide), wI_o (by decide), wI_o (by decide)])
  obtain ⟨Y2, ey2, f1, f2, f3, f4, f5, f6⟩ := y_vote (X := X) (M := Y1) (n := n) (w := 0) (by decide) (hLk.same y1p) hn (fun i hi => (e1 i hi).2.1) (fun i hi => (e1 i hi).2.2 0 (by decide)) hq0
  obtain ⟨Y3, ey3, g1, g2, g3, g4, g5, g6⟩ := y_vote (X := X) (M := Y2) (n := n) (w := 1) (by decide) (hLk.same ((f5 1 (by decide) (by decide) (by decide)).trans y1p)) hn (fun i hi => (congrFun (f5 11 (by decide) (by decide) (by decide)) i).trans (e1 i hi).2.1) (fun i hi => (f2 i).trans ((e1 i hi).2.2 1 (by decide))) hq0
  have y0 : ∀ j, (wI (wI (wI (wI Y 0 15 0) 0 16 0) 0 17 0) 0 18 0).1 0 j = if j = 18 then 0 else if j = 17 then 0 else if j = 16 then 0 else if j = 15 then 0 else Y.1 0 j := fun j => by
    show (if 0 = 0 ∧ j = 18 then (0 : Int32) else if 0 = 0 ∧ j = 17 then 0 else if 0 = 0 ∧ j = 16 then 0 else if 0 = 0 ∧ j = 15 then 0 else Y.1 0 j) = _
    simp only [true_and]
  have y30 : ∀ j, j ≠ 15 → Y3.1 0 j = (wI (wI (wI (wI Y 0 15 0) 0 16 0) 0 17 0) 0 18 0).1 0 j := fun j hj => (g4 j hj).trans ((f4 j hj).trans (congrFun (e2 0 (by decide) (by decide) (by decide)) j))
  have y315 : Y3.1 0 15 = nI (cn X 0 4) + nI (cn X 1 4) := by
    rw [g3, f3, show Y1.1 0 15 = 0 from (congrFun (e2 0 (by decide) (by decide) (by decide)) 15).trans (y0 15), Int32.zero_add]
  have y3p : Y3.1 1 = Y.1 1 := (g5 1 (by decide) (by decide) (by decide)).trans ((f5 1 (by decide) (by decide) (by decide)).trans y1p)
  have y3o : ∀ k, k = 1 ∨ (2 ≤ k ∧ k < 9) ∨ 15 ≤ k → Y3.1 k = Y.1 k := fun k hk' => (g5 k (by omega) (by omega) (by omega)).trans ((f5 k (by omega) (by omega) (by omega)).trans ((e2 k (by omega) (by omega) (by omega)).trans (by rw [wI_o (by omega), wI_o (by omega), wI_o (by omega), wI_o (by omega)])))
  have y3s : ∀ i, i < n → Y3.1 10 (2 * i) = shf X 0 i ∧ Y3.1 10 (2 * i + 1) = shf X 1 i := fun i hi => ⟨(g2 i).trans (f1 i hi), g1 i hi⟩
  have y39 : ∀ i, i < n → Y3.1 9 i = oc0 X i := fun i hi => (congrFun ((g5 9 (by decide) (by decide) (by decide)).trans (f5 9 (by decide) (by decide) (by decide))) i).trans (e1 i hi).1
  obtain ⟨Y4, ey4, k1, k2, k3, k4, k5, k6⟩ := y_dec (X := X) (M := Y3) (n := n) (sk := sk) (hLk.same y3p) hn hk y39 y3s ((y30 16 (by decide)).trans (y0 16)) ((y30 17 (by decide)).trans (y0 17))
  have hLk4 : Lk X Y4 n := hLk.same ((k5 1 (by decide) (by decide) (by decide)).trans y3p)
  have y4o : ∀ k, k = 1 ∨ (2 ≤ k ∧ k < 9) ∨ 15 ≤ k → Y4.1 k = Y.1 k := fun k hk' => (k5 k (by omega) (by omega) (by omega)).trans (y3o k hk')
  have y40 : ∀ j, j < 15 ∨ 19 ≤ j → Y4.1 0 j = Y.1 0 j := fun j hj => (k4 j (by omega) (by omega)).trans ((y30 j (by omega)).trans ((y0 j).trans (by rw [if_neg (by omega), if_neg (by omega), if_neg (by omega), if_neg (by omega)])))
  have y4j : ∀ k, k ≠ 12 → Y4.2 k = Y.2 k := fun k hk' => (k6 k hk').trans (by rw [g6, f6, e3]; rfl)
  have y4s : ∀ i, i < n → Y4.1 10 (2 * i) = shf X 0 i ∧ Y4.1 10 (2 * i + 1) = shf X 1 i := fun i hi => ⟨(congrFun (k5 10 (by decide) (by decide) (by decide)) _).trans (y3s i hi).1, (congrFun (k5 10 (by decide) (by decide) (by decide)) _).trans (y3s i hi).2⟩
  have y415 : Y4.1 0 15 = X5.1 232 5 := ((k4 15 (by decide) (by decide)).trans y315).trans x55.symm
  have y418 : Y4.1 0 18 = 0 := (k4 18 (by decide) (by decide)).trans ((y30 18 (by decide)).trans (y0 18))
  -- sets
  have aF : ∀ i, n ≤ i → i < 4 → accF X sk i = false := fun i h1 h2 => by
    have z : X.1 (3 + 2 * i) 0 = 0 := (hq i h1 h2).2.2.2.2.2.2.2
    unfold accF outc
    rw [if_pos z]
    rfl
  have e6 : X5.1 232 6 = bitset (accF X sk) 4 := d6.trans (acb_b 4)
  have e16 : Y4.1 0 16 = X5.1 232 6 := by rw [k2, e6, acb_b, bitset_to hn aF]
  have co : ∀ m, n + m ≤ 4 → cob X sk (n + m) = cob X sk n := fun m => by
    induction m with
    | zero => intro _; rfl
    | succ m ih =>
      intro hm
      have z : X.1 (3 + 2 * (n + m)) 0 = 0 := (hq (n + m) (by omega) (by omega)).2.2.2.2.2.2.2
      have z2 : outc X sk (n + m) = 0 := if_pos z
      show (if outc X sk (n + m) = 3 then cob X sk (n + m) ||| ((1 : Int32) <<< (nI (n + m) &&& 31)) else cob X sk (n + m)) = _
      rw [z2, if_neg (by decide), ih (by omega)]
  have e17 : Y4.1 0 17 = X5.1 232 7 := by
    rw [k3, d7, ← co (4 - n) (by omega)]
    congr 1
    omega
  unfold f_X2_judge f_X11_worksOut
  simp only [lt1_s]
  rw [ex1, ob1_s, ex2, ob2_s, ex3, ob2_s, ex5, ob1_s, ey1, ob1_s, show f_X11_vote (0 : Int32) Y1 = some Y2 from ey2, ob1_s, show f_X11_vote (1 : Int32) Y2 = some Y3 from ey3, ob1_s, ey4, ob1_s]
  unfold f_X2_averageVelocities
  simp only [lt1_s]
  let M3 := wI (wI (wI X5 232 8 0) 232 9 (-2000000005)) 232 10 (-2000000005)
  have m3o : ∀ k, k ≠ 232 → M3.1 k = X5.1 k := fun k hk' => by
    show (wI (wI (wI X5 232 8 0) 232 9 (-2000000005)) 232 10 (-2000000005)).1 k = _
    rw [wI_o hk', wI_o hk', wI_o hk']
  have m3k : ∀ j, j ≠ 8 → j ≠ 9 → j ≠ 10 → M3.1 232 j = X5.1 232 j := fun j j1 j2 j3 => by
    show (wI (wI (wI X5 232 8 0) 232 9 (-2000000005)) 232 10 (-2000000005)).1 232 j = _
    rw [wI_k j3, wI_k j2, wI_k j1]
  have m38 : M3.1 232 8 = 0 := by
    show (wI (wI (wI X5 232 8 0) 232 9 (-2000000005)) 232 10 (-2000000005)).1 232 8 = _
    rw [wI_k (by decide), wI_k (by decide), wI_e]
  have m39 : M3.1 232 9 = -2000000005 := by
    show (wI (wI (wI X5 232 8 0) 232 9 (-2000000005)) 232 10 (-2000000005)).1 232 9 = _
    rw [wI_k (by decide), wI_e]
  have m310 : M3.1 232 10 = -2000000005 := wI_e
  have m36 : gI M3 232 6 = bitset (accF X sk) 4 := (m3k 6 (by decide) (by decide) (by decide)).trans e6
  have m3j : M3.2 = X.2 := d10.trans x3j
  show ∃ X' Y' n hs, (ob1 (if gI M3 232 6 = 0 then some M3 else _) fun M_8 => some M_8) = some X' ∧ _ ∧ _
  by_cases c6 : bitset (accF X sk) 4 = 0
  · have ca := bitset_0.mp c6
    have co3 : ∀ i, i < 4 → outc X sk i < 3 := fun i hi => by
      have := ca i hi
      unfold accF at this
      by_cases q : outc X sk i < 3
      · exact q
      · rw [decide_eq_true q] at this; exact absurd this (by decide)
    rw [m36, if_pos c6, ob1_s, show gI Y4 0 16 = 0 from e16.trans (e6.trans c6), if_pos rfl]
    refine ⟨M3, Y4, n, 0, rfl, rfl, hA, ⟨fun k hk' => (m3o k (by omega)).trans (x5o k hk'), m3j⟩, ⟨y4o, y40, fun k _ k12 => y4j k k12⟩, ⟨fun i hi => (congrFun (m3o 236 (by decide)) i).trans (d1 i hi).1, fun i hi => (k1 i hi).1⟩, ⟨fun i hi => ⟨(congrFun (m3o 234 (by decide)) i).trans (x5s0 i hi), (congrFun (m3o 235 (by decide)) i).trans (x5s1 i hi)⟩, y4s⟩, ⟨(m3k 5 (by decide) (by decide) (by decide)).trans y415.symm, m36, e16.trans (m3k 6 (by decide) (by decide) (by decide)).symm, e17.trans (m3k 7 (by decide) (by decide) (by decide)).symm, y418.trans m38.symm⟩, Or.inl ⟨m36.trans c6, rfl, m39, m310, fun i hi => ?_⟩⟩
    rw [m3o 237 (by decide), (d1 i hi).2, if_pos (co3 i hi)]
  -- some path is accepted
  have n16 : ¬ gI Y4 0 16 = 0 := fun q => c6 (e6.symm.trans (e16.symm.trans q))
  rw [m36, if_neg c6, if_neg n16]
  have hex : ∃ i, i < n ∧ accF X sk i = true := by
    by_cases q : ∃ i, i < n ∧ accF X sk i = true
    · exact q
    · exfalso
      refine c6 (bitset_0.mpr (fun i hi => ?_))
      rcases Nat.lt_or_ge i n with z | z
      · cases hz : accF X sk i with
        | false => rfl
        | true => exact absurd ⟨i, z, hz⟩ q
      · exact aF i z hi
  have aT : ∀ i, accF X sk i = true → ¬ outc X sk i < 3 := fun i hi => by
    unfold accF at hi
    exact of_decide_eq_true hi
  have wB : ∀ i, i < n → 1 ≤ (X.1 (2 + 2 * i) 2).toInt ∧ (X.1 (2 + 2 * i) 2).toInt ≤ 1000 := fun i hi => by
    have := i_val _ _ _ (hp i hi).1.2.1
    have u1 : (1 : Int32).toInt = 1 := rfl
    have u2 : (1000 : Int32).toInt = 1000 := rfl
    omega
  have vB : ∀ i, i < n → accF X sk i = true → -100000 ≤ (vF X i).toInt ∧ (vF X i).toInt ≤ 100000 := fun i hi hf => by
    obtain ⟨-, -, q1, q2⟩ := vF_s hLk hn hi hk (aT i hf)
    have u1 : (-100000 : Int32).toInt = -100000 := rfl
    have u2 : (100000 : Int32).toInt = 100000 := rfl
    rw [i_le] at q1 q2
    omega
  -- the first mean
  obtain ⟨z1, z2, z3⟩ := sw_mean (fl := accF X sk) (v := fun i => Int32.toInt64 (vF X i)) (w := fun i => X.1 (2 + 2 * i) 2) (B := 100000) hn (by decide) (by decide) (fun i hi hf => ⟨wB i hi, by rw [Int32.toInt_toInt64]; exact vB i hi hf⟩) hex
  have xs1 : ∀ fl : Nat → Bool, (∀ i, n ≤ i → i < 4 → fl i = false) → ∀ (M : Mm) (v : Nat → Int64), (∀ k, k < 28 → M.1 k = X.1 k) → (∀ i, i < n → fl i = true → Int32.toInt64 (M.1 237 i) = v i) → swv fl (fun i => Int32.toInt64 (M.1 237 i)) (fun i => M.1 (2 + 2 * i) 2) 4 = swv fl v (fun i => X.1 (2 + 2 * i) 2) n ∧ sww fl (fun i => M.1 (2 + 2 * i) 2) 4 = sww fl (fun i => X.1 (2 + 2 * i) 2) n := by
    intro fl hfl M v hM hv
    obtain ⟨p1, p2⟩ := swv_to (fl := fl) (v := fun i => Int32.toInt64 (M.1 237 i)) (w := fun i => M.1 (2 + 2 * i) 2) hn hfl
    obtain ⟨p3, p4⟩ := sw_cw (fl := fl) (v := fun i => Int32.toInt64 (M.1 237 i)) (w := fun i => M.1 (2 + 2 * i) 2) (w' := fun i => X.1 (2 + 2 * i) 2) n (fun i hi => congrFun (hM _ (by omega)) 2)
    rw [p1, p2, p3, p4, swv_congr n hv]
    exact ⟨rfl, rfl⟩
  have m3L : ∀ k, k < 28 → M3.1 k = X.1 k := fun k hk' => (m3o k (by omega)).trans (x5o k (by omega))
  have m3v : ∀ i, i < n → accF X sk i = true → Int32.toInt64 (M3.1 237 i) = Int32.toInt64 (vF X i) := fun i hi hf => by
    rw [m3o 237 (by decide), (d1 i (by omega)).2, if_neg (aT i hf)]
  obtain ⟨s1, s2⟩ := xs1 _ aF M3 _ m3L m3v
  let m1 : Int64 := swv (accF X sk) (fun i => Int32.toInt64 (vF X i)) (fun i => X.1 (2 + 2 * i) 2) n / sww (accF X sk) (fun i => X.1 (2 + 2 * i) 2) n
  have hm1 : Int32.toInt64 (Int64.toInt32 m1) = m1 := j32 (by show _ ≤ m1.toInt; have : -100000 ≤ m1.toInt := z2; omega) (by have : m1.toInt ≤ 100000 := z3; omega)
  have tm1 : (Int64.toInt32 m1).toInt = m1.toInt := by rw [← Int32.toInt_toInt64, hm1]
  have ewx : f_X2_weightedMean (bitset (accF X sk) 4) M3 = some (Int64.toInt32 m1) := by
    unfold f_X2_weightedMean
    rw [x_wm rfl, s1, s2, ob2_s, quot z1]
    rfl
  have flY : ∀ i, i < n → Y4.1 13 i = if accF X sk i = true then 1 else 0 := fun i hi => by
    rw [(k1 i hi).2.1]
    unfold accF
    by_cases q : outc X sk i < 3
    · rw [if_pos q, if_neg (by simpa using q)]
    · rw [if_neg q, if_pos (by simpa using q)]
  have ewy : f_X11_weighted Y4 = some m1 := y_wm hLk4 hn flY (fun i hi hf => (k1 i hi).2.2 (aT i hf)) z1
  obtain ⟨X6, ex6, p1, p2, p3, p4, p5⟩ := x_sub (X := X) (M := M3) (m := Int64.toInt32 m1) (fl := accF X sk) m3L m36 m38
  obtain ⟨Y6, ey6, q1, q2, q3, q4, q5, q6⟩ := y_sub (X := X) (M := wJ Y4 0 19 m1) (n := n) (m := Int64.toInt32 m1) (fl := accF X sk) (hLk4.same rfl) hn flY y418
  rw [hm1] at ey6
  have sFn : ∀ i, n ≤ i → i < 4 → subF X (accF X sk) i = false := fun i h1 h2 => by
    unfold subF
    rw [(hq i h1 h2).2.1]
    simp
  have gF : ∀ i, n ≤ i → i < 4 → (accF X sk i || subF X (accF X sk) i) = false := fun i h1 h2 => by rw [aF i h1 h2, sFn i h1 h2]; rfl
  have subB : ∀ i, i < n → subF X (accF X sk) i = true → -500000 ≤ (sub64 X (Int64.toInt32 m1) i).toInt ∧ (sub64 X (Int64.toInt32 m1) i).toInt ≤ 500000 := fun i hi hf => by
    have h8 : ¬ X.1 (2 + 2 * i) 8 = 0 := by
      unfold subF at hf
      simp only [Bool.and_eq_true, decide_eq_true_eq] at hf
      exact hf.2
    rcases (hp i hi).rat with ⟨q, -⟩ | ⟨-, -, -, r1, r2⟩
    · exact absurd q h8
    · rw [i_le] at r1 r2
      have u1 : (-5000 : Int32).toInt = -5000 := rfl
      have u2 : (5000 : Int32).toInt = 5000 := rfl
      exact sub64_b (by rw [tm1]; exact z2) (by rw [tm1]; exact z3) (by omega) (by omega)
  let v6 : Nat → Int64 := fun i => if subF X (accF X sk) i = true then sub64 X (Int64.toInt32 m1) i else Int32.toInt64 (vF X i)
  have sNo : ∀ i, subF X (accF X sk) i = true → accF X sk i = false := fun i hi => by
    unfold subF at hi
    simp only [Bool.and_eq_true, Bool.not_eq_true'] at hi
    exact hi.1
  have v6B : ∀ i, i < n → (accF X sk i || subF X (accF X sk) i) = true → -500000 ≤ (v6 i).toInt ∧ (v6 i).toInt ≤ 500000 := fun i hi hf => by
    show -500000 ≤ (if subF X (accF X sk) i = true then sub64 X (Int64.toInt32 m1) i else Int32.toInt64 (vF X i)).toInt ∧ (if subF X (accF X sk) i = true then sub64 X (Int64.toInt32 m1) i else Int32.toInt64 (vF X i)).toInt ≤ 500000
    by_cases c : subF X (accF X sk) i = true
    · rw [if_pos c]; exact subB i hi c
    · rw [if_neg c, Int32.toInt_toInt64]
      rw [Bool.or_eq_true] at hf
      have := vB i hi (hf.resolve_right c)
      omega
  obtain ⟨y1, y2, y3⟩ := sw_mean (fl := fun i => accF X sk i || subF X (accF X sk) i) (v := v6) (w := fun i => X.1 (2 + 2 * i) 2) (B := 500000) hn (by decide) (by decide) (fun i hi hf => ⟨wB i hi, v6B i hi hf⟩) (by
    obtain ⟨i, i1, i2⟩ := hex
    exact ⟨i, i1, by rw [i2]; rfl⟩)
  have x6L : ∀ k, k < 28 → X6.1 k = X.1 k := fun k hk' => (p4 k (by omega) (by omega)).trans (m3L k hk')
  have x6v : ∀ i, i < n → (accF X sk i || subF X (accF X sk) i) = true → Int32.toInt64 (X6.1 237 i) = v6 i := fun i hi hf => by
    rw [p1 i (by omega)]
    show _ = if subF X (accF X sk) i = true then sub64 X (Int64.toInt32 m1) i else Int32.toInt64 (vF X i)
    by_cases c : subF X (accF X sk) i = true
    · have := subB i hi c
      rw [if_pos c, if_pos c, j32 (by omega) (by omega)]
    · rw [if_neg c, if_neg c]
      rw [Bool.or_eq_true] at hf
      exact m3v i hi (hf.resolve_right c)
  obtain ⟨s3, s4⟩ := xs1 _ gF X6 _ x6L x6v
  let m2 : Int64 := swv (fun i => accF X sk i || subF X (accF X sk) i) v6 (fun i => X.1 (2 + 2 * i) 2) n / sww (fun i => accF X sk i || subF X (accF X sk) i) (fun i => X.1 (2 + 2 * i) 2) n
  have b2a : -500000 ≤ m2.toInt := y2
  have b2b : m2.toInt ≤ 500000 := y3
  have hm2 : Int32.toInt64 (Int64.toInt32 m2) = m2 := j32 (by omega) (by omega)
  have tm2 : (Int64.toInt32 m2).toInt = m2.toInt := by rw [← Int32.toInt_toInt64, hm2]
  have x66 : gI X6 232 6 = bitset (accF X sk) 4 := (p3 6 (by decide)).trans m36
  have eset : gI X6 232 6 ||| gI X6 232 8 = bitset (fun i => accF X sk i || subF X (accF X sk) i) 4 := by
    rw [x66, show gI X6 232 8 = bitset (subF X (accF X sk)) 4 from p2]
    exact bitset_or
  have ewx2 : f_X2_weightedMean (gI X6 232 6 ||| gI X6 232 8) X6 = some (Int64.toInt32 m2) := by
    unfold f_X2_weightedMean
    rw [x_wm eset, s3, s4, ob2_s, quot y1]
    rfl
  have flY6 : ∀ i, i < n → Y6.1 13 i = if (accF X sk i || subF X (accF X sk) i) = true then 1 else 0 := q1
  have vY6 : ∀ i, i < n → (accF X sk i || subF X (accF X sk) i) = true → Y6.2 12 i = v6 i := fun i hi hf => by
    rw [q2 i hi]
    show _ = if subF X (accF X sk) i = true then sub64 X (Int64.toInt32 m1) i else Int32.toInt64 (vF X i)
    by_cases c : subF X (accF X sk) i = true
    · rw [if_pos c, if_pos c]
    · rw [if_neg c, if_neg c]
      rw [Bool.or_eq_true] at hf
      exact (k1 i hi).2.2 (aT i (hf.resolve_right c))
  have y6p : Y6.1 1 = Y4.1 1 := q5 1 (by decide) (by decide)
  have ewy2 : f_X11_weighted Y6 = some m2 := y_wm (hLk4.same y6p) hn flY6 vY6 y1
  -- the factor
  have y41 : Y4.1 1 = Y.1 1 := y4o 1 (by omega)
  have hF7 : PF nf ((wI X6 232 9 (Int64.toInt32 m2)).1 10 2) ((wI X6 232 9 (Int64.toInt32 m2)).1 11) ((wI X6 232 9 (Int64.toInt32 m2)).1 12) ((wJ Y6 0 19 m2).1 1) := by
    rw [wI_o (by decide), wI_o (by decide), wI_o (by decide), x6L 10 (by decide), x6L 11 (by decide), x6L 12 (by decide)]
    show PF nf _ _ _ (Y6.1 1)
    rw [y6p, y41]
    exact hF
  have u1 : (-1000000 : Int32).toInt = -1000000 := rfl
  have u2 : (1000000 : Int32).toInt = 1000000 := rfl
  obtain ⟨r, r1, r2, r3, r4⟩ := s_factorFor hF7 (x := Int64.toInt32 m2) (by rw [i_le, tm2]; omega) (by rw [i_le, tm2]; omega)
  rw [hm2] at r2
  have e9 : gI (wI X6 232 9 (Int64.toInt32 m2)) 232 9 = Int64.toInt32 m2 := wI_e
  let vel : Int32 := Int64.toInt32 (m2 * Int32.toInt64 r / (1000 : Int64))
  have hvel : -1000000 ≤ vel ∧ vel ≤ 1000000 := by
    rw [i_le] at r3 r4
    have w1 : (500 : Int32).toInt = 500 := rfl
    have w2 : (1500 : Int32).toInt = 1500 := rfl
    have t1 : m2.toInt * r.toInt ≤ 500000 * r.toInt := Int.mul_le_mul_of_nonneg_right b2b (by omega)
    have t2 : -500000 * r.toInt ≤ m2.toInt * r.toInt := Int.mul_le_mul_of_nonneg_right b2a (by omega)
    have t3 : (m2 * Int32.toInt64 r).toInt = m2.toInt * r.toInt := by rw [fb_mulL] <;> rw [Int32.toInt_toInt64] <;> omega
    have t4 : (m2 * Int32.toInt64 r / (1000 : Int64)).toInt = (m2.toInt * r.toInt).tdiv 1000 := by rw [Int64.toInt_div_of_ne_right _ _ (by decide), t3]; rfl
    obtain ⟨t5, t6⟩ := tdiv_bnd (a := m2.toInt * r.toInt) (c := 1000000) (L := 1000) (by decide) (by omega) (by omega)
    have t7 : vel.toInt = (m2.toInt * r.toInt).tdiv 1000 := by
      show (Int64.toInt32 (m2 * Int32.toInt64 r / (1000 : Int64))).toInt = _
      rw [Int64.toInt_toInt32, t4, fb_bmod (by omega) (by omega)]
    rw [i_le, i_le, t7]
    omega
  have eY7 : gJ (wJ Y6 0 19 m2) 0 19 = m2 := by
    show (if 0 = 0 ∧ 19 = 19 then m2 else Y6.2 0 19) = m2
    rw [if_pos ⟨rfl, rfl⟩]
  have eY5 : gJ (wJ Y4 0 19 m1) 0 19 = m1 := by
    show (if 0 = 0 ∧ 19 = 19 then m1 else Y4.2 0 19) = m1
    rw [if_pos ⟨rfl, rfl⟩]
  have erv : f_X11_roundVelocity (wJ Y6 0 19 m2) = some vel := by
    unfold f_X11_roundVelocity
    rw [eY7, r2]
    rfl
  rw [ewx, ob1_s, ex6, ob1_s, ewx2, ob1_s, e9, r1, ob1_s, ob1_s, ewy, ob1_s, eY5, ey6, ob1_s, ewy2, ob1_s, hm2]
  let Xf := wI (wI X6 232 9 (Int64.toInt32 m2)) 232 10 vel
  have xfo : ∀ k, k ≠ 232 → Xf.1 k = X6.1 k := fun k hk' => (wI_o hk').trans (wI_o hk')
  have xfk : ∀ j, j ≠ 9 → j ≠ 10 → Xf.1 232 j = X6.1 232 j := fun j j1 j2 => (wI_k j2).trans (wI_k j1)
  have xf9 : Xf.1 232 9 = Int64.toInt32 m2 := (wI_k (by decide)).trans wI_e
  have xf10 : Xf.1 232 10 = vel := wI_e
  have y6o : ∀ k, k = 1 ∨ (2 ≤ k ∧ k < 9) ∨ 15 ≤ k → Y6.1 k = Y.1 k := fun k hk' => (q5 k (by omega) (by omega)).trans (y4o k hk')
  have y60 : ∀ j, j ≠ 18 → Y6.1 0 j = Y4.1 0 j := fun j hj => q4 j hj
  have x6e : ∀ j, j ≠ 8 → j ≠ 9 → j ≠ 10 → Xf.1 232 j = X5.1 232 j := fun j j1 j2 j3 => (xfk j j2 j3).trans ((p3 j j1).trans (m3k j j1 j2 j3))
  refine ⟨Xf, wJ Y6 0 19 m2, n, 1, rfl, rfl, hA, ⟨fun k hk' => (xfo k (by omega)).trans ((p4 k (by omega) (by omega)).trans ((m3o k (by omega)).trans (x5o k hk'))), ?_⟩, ⟨y6o, fun j hj => (y60 j (by omega)).trans (y40 j hj), fun k k0 k12 => ?_⟩, ⟨fun i hi => ?_, fun i hi => ?_⟩, ⟨fun i hi => ⟨?_, ?_⟩, fun i hi => ⟨?_, ?_⟩⟩, ⟨?_, ?_, ?_, ?_, ?_⟩, Or.inr ⟨?_, rfl, ?_, ?_, ?_, ?_, fun i hi => ?_⟩⟩
  · exact p5.trans m3j
  · rw [wJ_o k0, q6 k k12, wJ_o k0]; exact y4j k k12
  · exact (congrFun ((xfo 236 (by decide)).trans ((p4 236 (by decide) (by decide)).trans (m3o 236 (by decide)))) i).trans (d1 i hi).1
  · exact (congrFun (q5 9 (by decide) (by decide)) i).trans (k1 i hi).1
  · exact (congrFun ((xfo 234 (by decide)).trans ((p4 234 (by decide) (by decide)).trans (m3o 234 (by decide)))) i).trans (x5s0 i hi)
  · exact (congrFun ((xfo 235 (by decide)).trans ((p4 235 (by decide) (by decide)).trans (m3o 235 (by decide)))) i).trans (x5s1 i hi)
  · exact (congrFun (q5 10 (by decide) (by decide)) _).trans (y4s i hi).1
  · exact (congrFun (q5 10 (by decide) (by decide)) _).trans (y4s i hi).2
  · exact (x6e 5 (by decide) (by decide) (by decide)).trans (y415.symm.trans (y60 15 (by decide)).symm)
  · exact (x6e 6 (by decide) (by decide) (by decide)).trans e6
  · exact ((y60 16 (by decide)).trans e16).trans (x6e 6 (by decide) (by decide) (by decide)).symm
  · exact ((y60 17 (by decide)).trans e17).trans (x6e 7 (by decide) (by decide) (by decide)).symm
  · rw [xfk 8 (by decide) (by decide), p2, bitset_to hn sFn]; exact q3
  · rw [x6e 6 (by decide) (by decide) (by decide), e6]; exact c6
  · rw [xf9, hm2]; exact eY7
  · rw [xf9, tm2]; exact ⟨b2a, b2b⟩
  · rw [xf10]; exact erv
  · rw [xf10]; exact hvel
  · rw [xfo 237 (by decide)]
    by_cases c : (accF X sk i || subF X (accF X sk) i) = true
    · refine Or.inr ⟨(flY6 i hi).trans (if_pos c), ?_⟩
      show (if 12 = 0 ∧ i = 19 then m2 else Y6.2 12 i) = _
      rw [if_neg (by omega), vY6 i hi c, x6v i hi c]
    · rw [Bool.or_eq_true, not_or] at c
      have ho : outc X sk i < 3 := by
        have := c.1
        unfold accF at this
        by_cases z : outc X sk i < 3
        · exact z
        · exact absurd (decide_eq_true z) this
      refine Or.inl ⟨(flY6 i hi).trans (if_neg (by rw [Bool.or_eq_true, not_or]; exact c)), ho, ?_⟩
      rw [p1 i (by omega), if_neg c.2, m3o 237 (by decide), (d1 i (by omega)).2, if_pos ho]

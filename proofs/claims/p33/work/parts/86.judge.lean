/-! P33, 3: what judging finds, in the class's own numbers -/
def asF (X : Mm) (sk : Int32) (i : Nat) : Bool := accF X sk i || subF X (accF X sk) i
def wgt (X : Mm) : Nat → Int32 := fun i => X.1 (2 + 2 * i) 2
def m1 (X : Mm) (sk : Int32) : Int64 := swv (accF X sk) (fun i => Int32.toInt64 (vF X i)) (wgt X) 4 / sww (accF X sk) (wgt X) 4
def vv (X : Mm) (sk : Int32) (i : Nat) : Int32 := if accF X sk i = true then vF X i else if subF X (accF X sk) i = true then Int64.toInt32 (sub64 X (Int64.toInt32 (m1 X sk)) i) else -2000000005
def m2 (X : Mm) (sk : Int32) : Int64 := swv (asF X sk) (fun i => Int32.toInt64 (vv X sk i)) (wgt X) 4 / sww (asF X sk) (wgt X) 4
def mnX (X : Mm) (sk : Int32) : Int32 := Int64.toInt32 (m2 X sk)
def ffX (X : Mm) (x : Int32) : Int32 := (f_X4_factorFor x X).getD 0
def rvX (X : Mm) (sk : Int32) : Int32 := Int64.toInt32 (Int32.toInt64 (mnX X sk) * Int32.toInt64 (ffX X (mnX X sk)) / (1000 : Int64))
/-- what is judged, of a state with some path accepted -/
def JA (X : Mm) (sk : Int32) : Prop :=
  (∀ i, i < 4 → accF X sk i = true → (-100000 ≤ (vF X i).toInt ∧ (vF X i).toInt ≤ 100000) ∧ 1 ≤ (wgt X i).toInt ∧ (wgt X i).toInt ≤ 1000) ∧
  (-100000 ≤ (m1 X sk).toInt ∧ (m1 X sk).toInt ≤ 100000) ∧
  (∀ i, i < 4 → subF X (accF X sk) i = true → (-500000 ≤ (sub64 X (Int64.toInt32 (m1 X sk)) i).toInt ∧ (sub64 X (Int64.toInt32 (m1 X sk)) i).toInt ≤ 500000) ∧ 1 ≤ (wgt X i).toInt ∧ (wgt X i).toInt ≤ 1000) ∧
  ((-500000 ≤ (m2 X sk).toInt ∧ (m2 X sk).toInt ≤ 500000) ∧ (mnX X sk).toInt = (m2 X sk).toInt) ∧
  (∃ f, f_X4_factorFor (mnX X sk) X = some f ∧ 500 ≤ f.toInt ∧ f.toInt ≤ 1500) ∧
  ∃ i, i < 4 ∧ accF X sk i = true
theorem JA.v {X : Mm} {sk : Int32} (h : JA X sk) {i : Nat} (hi : i < 4) (hf : asF X sk i = true) : (-500000 ≤ (vv X sk i).toInt ∧ (vv X sk i).toInt ≤ 500000) ∧ 1 ≤ (wgt X i).toInt ∧ (wgt X i).toInt ≤ 1000 := by
  unfold vv
  by_cases c : accF X sk i = true
  · rw [if_pos c]
    have := h.1 i hi c
    omega
  · have c2 : subF X (accF X sk) i = true := by
      unfold asF at hf
      rw [Bool.or_eq_true] at hf
      exact hf.resolve_left c
    rw [if_neg c, if_pos c2]
    obtain ⟨⟨q1, q2⟩, q3⟩ := h.2.2.1 i hi c2
    rw [Int64.toInt_toInt32, fb_bmod (by omega) (by omega)]
    exact ⟨⟨q1, q2⟩, q3⟩
theorem JA.rv {X : Mm} {sk : Int32} (h : JA X sk) : -750000 ≤ (rvX X sk).toInt ∧ (rvX X sk).toInt ≤ 750000 ∧ (rvX X sk).toInt = ((mnX X sk).toInt * (ffX X (mnX X sk)).toInt).tdiv 1000 := by
  obtain ⟨-, -, -, ⟨⟨a1, a2⟩, a3⟩, ⟨f, f1, f2, f3⟩, -⟩ := h
  have ef : ffX X (mnX X sk) = f := by unfold ffX; rw [f1]; rfl
  unfold rvX
  rw [ef]
  have p1 : (mnX X sk).toInt * f.toInt ≤ 500000 * f.toInt := Int.mul_le_mul_of_nonneg_right (by omega) (by omega)
  have p2 : -500000 * f.toInt ≤ (mnX X sk).toInt * f.toInt := Int.mul_le_mul_of_nonneg_right (by omega) (by omega)
  have e1 : (Int32.toInt64 (mnX X sk) * Int32.toInt64 f).toInt = (mnX X sk).toInt * f.toInt := by rw [fb_mulL] <;> rw [Int32.toInt_toInt64, Int32.toInt_toInt64] <;> omega
  have e2 : (Int32.toInt64 (mnX X sk) * Int32.toInt64 f / (1000 : Int64)).toInt = ((mnX X sk).toInt * f.toInt).tdiv 1000 := by
    rw [Int64.toInt_div_of_ne_right _ _ (by decide), e1]
    rfl
  obtain ⟨b1, b2⟩ := tdiv_bnd (a := (mnX X sk).toInt * f.toInt) (c := 750000) (L := 1000) (by decide) (by omega) (by omega)
  rw [Int64.toInt_toInt32, e2, fb_bmod (by omega) (by omega)]
  exact ⟨b1, b2, rfl⟩
def JR (X X' : Mm) (sk : Int32) : Prop := Jd X X' ∧ (∀ i, i < 4 → X'.1 236 i = outc X sk i) ∧ (∀ i, i < 4 → X'.1 234 i = shf X 0 i ∧ X'.1 235 i = shf X 1 i) ∧ X'.1 232 5 = nI (cn X 0 4 + cn X 1 4) ∧ X'.1 232 6 = bitset (accF X sk) 4 ∧ X'.1 232 7 = cob X sk 4 ∧
  ((bitset (accF X sk) 4 = 0 ∧ X'.1 232 8 = 0 ∧ X'.1 232 9 = -2000000005 ∧ X'.1 232 10 = -2000000005 ∧ ∀ i, i < 4 → X'.1 237 i = -2000000005) ∨
   (¬ bitset (accF X sk) 4 = 0 ∧ X'.1 232 8 = bitset (subF X (accF X sk)) 4 ∧ X'.1 232 9 = mnX X sk ∧ X'.1 232 10 = rvX X sk ∧ (∀ i, i < 4 → X'.1 237 i = vv X sk i) ∧ JA X sk))
set_option maxHeartbeats 2000000 in
theorem x_judge {X Y : Mm} (h : Rel X Y) {sk : Int32} (hk : sk ≤ 5) : ∃ X', f_X2_judge sk X = some X' ∧ (∃ Y', Rel X' Y') ∧ JR X X' sk := by
  obtain ⟨Xa, Ya, na, hsa, ea, -, Ja⟩ := s_judge h hk
  have hRel : ∃ Y', Rel Xa Y' := ⟨Ya, Ja.rel h⟩
  clear Ja
  obtain ⟨⟨n, hA⟩, ⟨nf, hF⟩, hS, -⟩ := h.pg
  obtain ⟨hn, hx, hy, hp, hq⟩ := id hA
  have hPth := hA.pth
  have hLk : Lk X Y n := ⟨hp, hy, hS.1.1, hS.1.2.2.1⟩
  obtain ⟨X1, ex1, a1, a2, a3⟩ := x_shifts hPth
  obtain ⟨X2, ex2, b1, b2, b3⟩ := x_vote (X := X) (M := X1) (w := 0) (a := 234) (Or.inl rfl) (fun i hi => congrFun (a2 _ (by omega) (by omega) (by omega)) 2) (congrFun (a2 13 (by decide) (by decide) (by decide)) 2) (fun i hi => (a1 i hi).1) (fun i hi => (a1 i hi).2.1)
  obtain ⟨X3, ex3, c1, c2, c3⟩ := x_vote (X := X) (M := X2) (w := 1) (a := 235) (Or.inr rfl) (fun i hi => congrFun ((b2 _ (by omega)).trans (a2 _ (by omega) (by omega) (by omega))) 2) (congrFun ((b2 13 (by decide)).trans (a2 13 (by decide) (by decide) (by decide))) 2) (fun i hi => (congrFun (b2 233 (by decide)) i).trans (a1 i hi).1) (fun i hi => (congrFun (b2 235 (by decide)) i).trans (a1 i hi).2.2)
  have x3o : ∀ k, k ≠ 233 → k ≠ 234 → k ≠ 235 → X3.1 k = X.1 k := fun k k1 k2 k3 => (c2 k k3).trans ((b2 k k2).trans (a2 k k1 k2 k3))
  have x3j : X3.2 = X.2 := c3.trans (b3.trans a3)
  have x3s0 : ∀ i, i < 4 → X3.1 234 i = shf X 0 i := fun i hi => (congrFun (c2 234 (by decide)) i).trans (b1 i hi)
  obtain ⟨X5, ex5, d1, d6, d7, d8, d9, d10⟩ := x_dec (X := X) (Y := Y) (M := wI X3 232 5 (nI (cn X 0 4) + nI (cn X 1 4))) (n := n) (sk := sk) hLk hn (fun i h1 h2 => (hq i h1 h2).2.2.2.2.2.2.2) hk (fun k hk' => (wI_o (by omega)).trans (x3o k (by omega) (by omega) (by omega))) (fun i hi => (congrFun (wI_o (by decide)) i).trans (x3s0 i hi)) (fun i hi => (congrFun (wI_o (by decide)) i).trans (c1 i hi))
  have x5o : ∀ k, k < 232 → X5.1 k = X.1 k := fun k hk' => (d9 k (by omega) (by omega) (by omega)).trans ((wI_o (by omega)).trans (x3o k (by omega) (by omega) (by omega)))
  have x5s0 : ∀ i, i < 4 → X5.1 234 i = shf X 0 i := fun i hi => (congrFun ((d9 234 (by decide) (by decide) (by decide)).trans (wI_o (by decide))) i).trans (x3s0 i hi)
  have x5s1 : ∀ i, i < 4 → X5.1 235 i = shf X 1 i := fun i hi => (congrFun ((d9 235 (by decide) (by decide) (by decide)).trans (wI_o (by decide))) i).trans (c1 i hi)
  have x55 : X5.1 232 5 = nI (cn X 0 4 + cn X 1 4) := (d8 5 (by decide) (by decide)).trans (wI_e.trans (nI_add _ _))
  have aF : ∀ i, n ≤ i → i < 4 → accF X sk i = false := fun i h1 h2 => by
    have z : X.1 (3 + 2 * i) 0 = 0 := (hq i h1 h2).2.2.2.2.2.2.2
    unfold accF outc
    rw [if_pos z]
    rfl
  have e6 : X5.1 232 6 = bitset (accF X sk) 4 := d6.trans (acb_b 4)
  let M3 := wI (wI (wI X5 232 8 0) 232 9 (-2000000005)) 232 10 (-2000000005)
  have m3o : ∀ k, k ≠ 232 → M3.1 k = X5.1 k := fun k hk' => by
    show (wI (wI (wI X5 232 8 0) 232 9 (-2000000005)) 232 10 (-2000000005)).1 k = _
    rw [wI_o hk', wI_o hk', wI_o hk']
  have m3k : ∀ j, j ≠ 8 → j ≠ 9 → j ≠ 10 → M3.1 232 j = X5.1 232 j := fun j j1 j2 j3 => by
    show (wI (wI (wI X5 232 8 0) 232 9 (-2000000005)) 232 10 (-2000000005)).1 232 j = _
    rw [wI_k j3, wI_k j2, wI_k j1]
  have m38 : M3.1 232 8 = 0 := by
    show (wI (wI (wI X5 232 8 0) 232 9 (-2000000005)) 232 10 (-2000000005)).1 232 8 = _
    rw [wI_k (by decide), wI_k (by decide), wI_e]
  have m39 : M3.1 232 9 = -2000000005 := by
    show (wI (wI (wI X5 232 8 0) 232 9 (-2000000005)) 232 10 (-2000000005)).1 232 9 = _
    rw [wI_k (by decide), wI_e]
  have m310 : M3.1 232 10 = -2000000005 := wI_e
  have m36 : gI M3 232 6 = bitset (accF X sk) 4 := (m3k 6 (by decide) (by decide) (by decide)).trans e6
  have m3j : M3.2 = X.2 := d10.trans x3j
  have eJ : f_X2_judge sk X = ob1 (f_X2_averageVelocities X5) fun M_8 => some M_8 := by
    unfold f_X2_judge
    simp only [lt1_s]
    rw [ex1, ob1_s, ex2, ob2_s, ex3, ob2_s, ex5, ob1_s]
  have key : ∀ X', f_X2_averageVelocities X5 = some X' → JR X X' sk → ∃ X', f_X2_judge sk X = some X' ∧ (∃ Y', Rel X' Y') ∧ JR X X' sk := fun X' h1 h2 => by
    have e : f_X2_judge sk X = some X' := by rw [eJ, h1, ob1_s]
    obtain rfl : Xa = X' := Option.some.inj (ea.symm.trans e)
    exact ⟨Xa, e, hRel, h2⟩
  by_cases c6 : bitset (accF X sk) 4 = 0
  · have ca := bitset_0.mp c6
    have co3 : ∀ i, i < 4 → outc X sk i < 3 := fun i hi => by
      have := ca i hi
      unfold accF at this
      by_cases q : outc X sk i < 3
      · exact q
      · rw [decide_eq_true q] at this; exact absurd this (by decide)
    refine key M3 ?_ ⟨⟨fun k hk' => (m3o k (by omega)).trans (x5o k hk'), m3j⟩, fun i hi => (congrFun (m3o 236 (by decide)) i).trans (d1 i hi).1, fun i hi => ⟨(congrFun (m3o 234 (by decide)) i).trans (x5s0 i hi), (congrFun (m3o 235 (by decide)) i).trans (x5s1 i hi)⟩, (m3k 5 (by decide) (by decide) (by decide)).trans x55, m36, (m3k 7 (by decide) (by decide) (by decide)).trans d7, Or.inl ⟨c6, m38, m39, m310, fun i hi => ?_⟩⟩
    · unfold f_X2_averageVelocities
      simp only [lt1_s]
      show (if gI M3 232 6 = 0 then some M3 else _) = _
      rw [m36, if_pos c6]
    · rw [m3o 237 (by decide), (d1 i hi).2, if_pos (co3 i hi)]
  have hex : ∃ i, i < 4 ∧ accF X sk i = true := by
    by_cases q : ∃ i, i < 4 ∧ accF X sk i = true
    · exact q
    · exfalso
      refine c6 (bitset_0.mpr (fun i hi => ?_))
      cases hz : accF X sk i with
      | false => rfl
      | true => exact absurd ⟨i, hi, hz⟩ q
  have aT : ∀ i, accF X sk i = true → ¬ outc X sk i < 3 := fun i hi => by
    unfold accF at hi
    exact of_decide_eq_true hi
  have aN : ∀ i, i < 4 → accF X sk i = true → i < n := fun i hi hf => by
    rcases Nat.lt_or_ge i n with q | q
    · exact q
    · rw [aF i q hi] at hf; exact absurd hf (by decide)
  have wB : ∀ i, i < n → 1 ≤ (wgt X i).toInt ∧ (wgt X i).toInt ≤ 1000 := fun i hi => by
    have := i_val _ _ _ (hp i hi).1.2.1
    have u1 : (1 : Int32).toInt = 1 := rfl
    have u2 : (1000 : Int32).toInt = 1000 := rfl
    show 1 ≤ (X.1 (2 + 2 * i) 2).toInt ∧ (X.1 (2 + 2 * i) 2).toInt ≤ 1000
    omega
  have vB : ∀ i, i < 4 → accF X sk i = true → -100000 ≤ (vF X i).toInt ∧ (vF X i).toInt ≤ 100000 := fun i hi hf => by
    obtain ⟨-, -, q1, q2⟩ := vF_s hLk hn (aN i hi hf) hk (aT i hf)
    have u1 : (-100000 : Int32).toInt = -100000 := rfl
    have u2 : (100000 : Int32).toInt = 100000 := rfl
    rw [i_le] at q1 q2
    omega
  obtain ⟨z1, z2, z3⟩ := sw_mean (fl := accF X sk) (v := fun i => Int32.toInt64 (vF X i)) (w := wgt X) (B := 100000) (n := 4) (by decide) (by decide) (by decide) (fun i hi hf => ⟨wB i (aN i hi hf), by rw [Int32.toInt_toInt64]; exact vB i hi hf⟩) hex
  have z2' : -100000 ≤ (m1 X sk).toInt := z2
  have z3' : (m1 X sk).toInt ≤ 100000 := z3
  have tm1 : (Int64.toInt32 (m1 X sk)).toInt = (m1 X sk).toInt := by rw [Int64.toInt_toInt32, fb_bmod (by omega) (by omega)]
  have m3L : ∀ k, k < 28 → M3.1 k = X.1 k := fun k hk' => (m3o k (by omega)).trans (x5o k (by omega))
  have m3w : (fun i => M3.1 (2 + 2 * i) 2) = fun i => if i < 13 then wgt X i else M3.1 (2 + 2 * i) 2 := funext fun i => by
    by_cases q : i < 13
    · rw [if_pos q, m3L _ (by omega)]; rfl
    · rw [if_neg q]
  have sumE : ∀ (fl : Nat → Bool) (M : Mm) (v : Nat → Int64), (∀ k, k < 28 → M.1 k = X.1 k) → (∀ i, i < 4 → fl i = true → Int32.toInt64 (M.1 237 i) = v i) → swv fl (fun i => Int32.toInt64 (M.1 237 i)) (fun i => M.1 (2 + 2 * i) 2) 4 = swv fl v (wgt X) 4 ∧ sww fl (fun i => M.1 (2 + 2 * i) 2) 4 = sww fl (wgt X) 4 := by
    intro fl M v hM hv
    obtain ⟨p3, p4⟩ := sw_cw (fl := fl) (v := fun i => Int32.toInt64 (M.1 237 i)) (w := fun i => M.1 (2 + 2 * i) 2) (w' := wgt X) 4 (fun i hi => congrFun (hM _ (by omega)) 2)
    rw [p3, p4, swv_congr 4 hv]
    exact ⟨rfl, rfl⟩
  obtain ⟨s1, s2⟩ := sumE (accF X sk) M3 (fun i => Int32.toInt64 (vF X i)) m3L (fun i hi hf => by rw [m3o 237 (by decide), (d1 i hi).2, if_neg (aT i hf)])
  have ewx : f_X2_weightedMean (bitset (accF X sk) 4) M3 = some (Int64.toInt32 (m1 X sk)) := by
    unfold f_X2_weightedMean
    rw [x_wm rfl, s1, s2, ob2_s, quot z1]
    rfl
  obtain ⟨X6, ex6, p1, p2, p3, p4, p5⟩ := x_sub (X := X) (M := M3) (m := Int64.toInt32 (m1 X sk)) (fl := accF X sk) m3L m36 m38
  have sN : ∀ i, i < 4 → subF X (accF X sk) i = true → i < n := fun i hi hf => by
    rcases Nat.lt_or_ge i n with q | q
    · exact q
    · unfold subF at hf
      rw [(hq i q hi).2.1] at hf
      simp at hf
  have subB : ∀ i, i < 4 → subF X (accF X sk) i = true → -500000 ≤ (sub64 X (Int64.toInt32 (m1 X sk)) i).toInt ∧ (sub64 X (Int64.toInt32 (m1 X sk)) i).toInt ≤ 500000 := fun i hi hf => by
    have h8 : ¬ X.1 (2 + 2 * i) 8 = 0 := by
      unfold subF at hf
      simp only [Bool.and_eq_true, decide_eq_true_eq] at hf
      exact hf.2
    rcases (hp i (sN i hi hf)).rat with ⟨q, -⟩ | ⟨-, -, -, r1, r2⟩
    · exact absurd q h8
    · rw [i_le] at r1 r2
      have u1 : (-5000 : Int32).toInt = -5000 := rfl
      have u2 : (5000 : Int32).toInt = 5000 := rfl
      have e1 : (-100000 : Int32).toInt = -100000 := rfl
      have e2 : (100000 : Int32).toInt = 100000 := rfl
      exact sub64_b (by rw [tm1]; exact z2) (by rw [tm1]; exact z3) (by omega) (by omega)
  have sNo : ∀ i, subF X (accF X sk) i = true → ¬ accF X sk i = true := fun i hi => by
    unfold subF at hi
    simp only [Bool.and_eq_true, Bool.not_eq_true'] at hi
    rw [hi.1]
    decide
  have x6v : ∀ i, i < 4 → X6.1 237 i = vv X sk i := fun i hi => by
    rw [p1 i hi]
    unfold vv
    by_cases c : subF X (accF X sk) i = true
    · rw [if_pos c, if_neg (sNo i c), if_pos c]
    · rw [if_neg c, m3o 237 (by decide), (d1 i hi).2]
      by_cases c2 : accF X sk i = true
      · rw [if_pos c2, if_neg (aT i c2)]
      · rw [if_neg c2, if_neg c, if_pos]
        by_cases q : outc X sk i < 3
        · exact q
        · exact absurd (decide_eq_true q) c2
  have vB2 : ∀ i, i < 4 → asF X sk i = true → (1 ≤ (wgt X i).toInt ∧ (wgt X i).toInt ≤ 1000) ∧ -500000 ≤ (Int32.toInt64 (vv X sk i)).toInt ∧ (Int32.toInt64 (vv X sk i)).toInt ≤ 500000 := fun i hi hf => by
    rw [Int32.toInt_toInt64]
    unfold vv
    by_cases c : accF X sk i = true
    · rw [if_pos c]
      have := vB i hi c
      exact ⟨wB i (aN i hi c), by omega, by omega⟩
    · have c2 : subF X (accF X sk) i = true := by
        unfold asF at hf
        rw [Bool.or_eq_true] at hf
        exact hf.resolve_left c
      rw [if_neg c, if_pos c2]
      have := subB i hi c2
      rw [Int64.toInt_toInt32, fb_bmod (by omega) (by omega)]
      exact ⟨wB i (sN i hi c2), this⟩
  obtain ⟨y1, y2, y3⟩ := sw_mean (fl := asF X sk) (v := fun i => Int32.toInt64 (vv X sk i)) (w := wgt X) (B := 500000) (n := 4) (by decide) (by decide) (by decide) vB2 (by
    obtain ⟨i, i1, i2⟩ := hex
    exact ⟨i, i1, by unfold asF; rw [i2]; rfl⟩)
  have y2' : -500000 ≤ (m2 X sk).toInt := y2
  have y3' : (m2 X sk).toInt ≤ 500000 := y3
  have tm2 : (mnX X sk).toInt = (m2 X sk).toInt := by unfold mnX; rw [Int64.toInt_toInt32, fb_bmod (by omega) (by omega)]
  have x6L : ∀ k, k < 28 → X6.1 k = X.1 k := fun k hk' => (p4 k (by omega) (by omega)).trans (m3L k hk')
  obtain ⟨s3, s4⟩ := sumE (asF X sk) X6 (fun i => Int32.toInt64 (vv X sk i)) x6L (fun i hi _ => by rw [x6v i hi])
  have x66 : gI X6 232 6 = bitset (accF X sk) 4 := (p3 6 (by decide)).trans m36
  have eset : gI X6 232 6 ||| gI X6 232 8 = bitset (asF X sk) 4 := by
    rw [x66, show gI X6 232 8 = bitset (subF X (accF X sk)) 4 from p2]
    exact bitset_or
  have ewx2 : f_X2_weightedMean (gI X6 232 6 ||| gI X6 232 8) X6 = some (mnX X sk) := by
    unfold f_X2_weightedMean
    rw [x_wm eset, s3, s4, ob2_s, quot y1]
    rfl
  have hF7 : PF nf ((wI X6 232 9 (mnX X sk)).1 10 2) ((wI X6 232 9 (mnX X sk)).1 11) ((wI X6 232 9 (mnX X sk)).1 12) (Y.1 1) := by
    rw [wI_o (by decide), wI_o (by decide), wI_o (by decide), x6L 10 (by decide), x6L 11 (by decide), x6L 12 (by decide)]
    exact hF
  have u1 : (-1000000 : Int32).toInt = -1000000 := rfl
  have u2 : (1000000 : Int32).toInt = 1000000 := rfl
  obtain ⟨r, r1, -, r3, r4⟩ := s_factorFor hF7 (x := mnX X sk) (by rw [i_le, tm2]; omega) (by rw [i_le, tm2]; omega)
  obtain ⟨r', r1', -, r3', r4'⟩ := s_factorFor hF (x := mnX X sk) (by rw [i_le, tm2]; omega) (by rw [i_le, tm2]; omega)
  have err : r = r' := by
    have e := ff_congr (X := X) (X' := wI X6 232 9 (mnX X sk)) (x := mnX X sk) (by rw [wI_o (by decide), x6L 10 (by decide)]) (fun k _ => by rw [wI_o (by decide), x6L 11 (by decide)]) (fun k _ => by rw [wI_o (by decide), x6L 12 (by decide)])
    rw [r1, r1'] at e
    exact Option.some.inj e
  have eff : ffX X (mnX X sk) = r := by unfold ffX; rw [r1', err]; rfl
  have v500 : (500 : Int32).toInt = 500 := rfl
  have v1500 : (1500 : Int32).toInt = 1500 := rfl
  refine key (wI (wI X6 232 9 (mnX X sk)) 232 10 (rvX X sk)) ?_ ⟨⟨fun k hk' => ?_, ?_⟩, fun i hi => ?_, fun i hi => ⟨?_, ?_⟩, ?_, ?_, ?_, Or.inr ⟨c6, ?_, ?_, wI_e, fun i hi => ?_, ?_⟩⟩
  · unfold f_X2_averageVelocities
    simp only [lt1_s]
    show (if gI M3 232 6 = 0 then some M3 else ob1 (f_X2_weightedMean (gI M3 232 6) M3) _) = _
    rw [m36, if_neg c6, ewx, ob1_s, ex6, ob1_s, ewx2, ob1_s]
    show ob1 (f_X4_factorFor (gI (wI X6 232 9 (mnX X sk)) 232 9) (wI X6 232 9 (mnX X sk))) _ = _
    rw [show gI (wI X6 232 9 (mnX X sk)) 232 9 = mnX X sk from wI_e, r1, ob1_s]
    unfold rvX
    rw [eff]
  · rw [wI_o (by omega), wI_o (by omega), p4 k (by omega) (by omega), m3o k (by omega)]
    exact x5o k hk'
  · exact p5.trans m3j
  · rw [wI_o (by decide), wI_o (by decide), p4 236 (by decide) (by decide), m3o 236 (by decide)]
    exact (d1 i hi).1
  · rw [wI_o (by decide), wI_o (by decide), p4 234 (by decide) (by decide), m3o 234 (by decide)]
    exact x5s0 i hi
  · rw [wI_o (by decide), wI_o (by decide), p4 235 (by decide) (by decide), m3o 235 (by decide)]
    exact x5s1 i hi
  · rw [wI_k (by decide), wI_k (by decide), p3 5 (by decide), m3k 5 (by decide) (by decide) (by decide)]
    exact x55
  · rw [wI_k (by decide), wI_k (by decide)]
    exact x66
  · rw [wI_k (by decide), wI_k (by decide), p3 7 (by decide), m3k 7 (by decide) (by decide) (by decide)]
    exact d7
  · rw [wI_k (by decide), wI_k (by decide)]
    exact p2
  · rw [wI_k (by decide), wI_e]
  · rw [wI_o (by decide), wI_o (by decide)]
    exact x6v i hi
  · rw [i_le] at r3' r4'
    exact ⟨fun i hi hf => ⟨vB i hi hf, wB i (aN i hi hf)⟩, ⟨z2', z3'⟩, fun i hi hf => ⟨subB i hi hf, wB i (sN i hi hf)⟩, ⟨⟨y2', y3'⟩, tm2⟩, ⟨r', r1', by omega, by omega⟩, hex⟩

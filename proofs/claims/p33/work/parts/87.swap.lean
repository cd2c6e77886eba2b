/-! P33, 4: means lie between; what is swapped is judged with the other sign; what is judged rests on the state's slots alone -/
def sI (fl : Nat → Bool) (g : Nat → Int) : Nat → Int
  | 0 => 0
  | k + 1 => if fl k = true then sI fl g k + g k else sI fl g k
theorem sI_neg {fl fl' : Nat → Bool} {g g' : Nat → Int} : ∀ k : Nat, (∀ i, i < k → fl' i = fl i) → (∀ i, i < k → fl i = true → g' i = -g i) → sI fl' g' k = -sI fl g k := by
  intro k
  induction k with
  | zero => intro _ _; rfl
  | succ k ih =>
    intro h1 h2
    show (if fl' k = true then sI fl' g' k + g' k else sI fl' g' k) = -(if fl k = true then sI fl g k + g k else sI fl g k)
    rw [ih (fun i hi => h1 i (by omega)) (fun i hi => h2 i (by omega)), h1 k (by omega)]
    by_cases c : fl k = true
    · rw [if_pos c, if_pos c, h2 k (by omega) c]; omega
    · rw [if_neg c, if_neg c]
theorem sI_congr {fl fl' : Nat → Bool} {g g' : Nat → Int} : ∀ k : Nat, (∀ i, i < k → fl' i = fl i) → (∀ i, i < k → fl i = true → g' i = g i) → sI fl' g' k = sI fl g k := by
  intro k
  induction k with
  | zero => intro _ _; rfl
  | succ k ih =>
    intro h1 h2
    show (if fl' k = true then sI fl' g' k + g' k else sI fl' g' k) = (if fl k = true then sI fl g k + g k else sI fl g k)
    rw [ih (fun i hi => h1 i (by omega)) (fun i hi => h2 i (by omega)), h1 k (by omega)]
    by_cases c : fl k = true
    · rw [if_pos c, if_pos c, h2 k (by omega) c]
    · rw [if_neg c, if_neg c]
theorem sI_btw {fl : Nat → Bool} {g w : Nat → Int} {a b : Int} : ∀ k : Nat, (∀ i, i < k → fl i = true → a * w i ≤ g i ∧ g i ≤ b * w i) → a * sI fl w k ≤ sI fl g k ∧ sI fl g k ≤ b * sI fl w k := by
  intro k
  induction k with
  | zero => intro _; show a * 0 ≤ 0 ∧ 0 ≤ b * 0; omega
  | succ k ih =>
    intro h
    obtain ⟨i1, i2⟩ := ih (fun i hi => h i (by omega))
    show a * (if fl k = true then sI fl w k + w k else sI fl w k) ≤ (if fl k = true then sI fl g k + g k else sI fl g k) ∧ (if fl k = true then sI fl g k + g k else sI fl g k) ≤ b * (if fl k = true then sI fl w k + w k else sI fl w k)
    by_cases c : fl k = true
    · obtain ⟨q1, q2⟩ := h k (by omega) c
      rw [if_pos c, if_pos c, Int.mul_add, Int.mul_add]
      omega
    · rw [if_neg c, if_neg c]
      exact ⟨i1, i2⟩
theorem sw_int {fl : Nat → Bool} {v : Nat → Int64} {w : Nat → Int32} {B : Int} (hB0 : 0 ≤ B) (hB : B ≤ 500000) : ∀ k : Nat, k ≤ 4 → (∀ i, i < k → fl i = true → (1 ≤ (w i).toInt ∧ (w i).toInt ≤ 1000) ∧ -B ≤ (v i).toInt ∧ (v i).toInt ≤ B) →
    (swv fl v w k).toInt = sI fl (fun i => (w i).toInt * (v i).toInt) k ∧ (sww fl w k).toInt = sI fl (fun i => (w i).toInt) k := by
  intro k
  induction k with
  | zero => intro _ _; exact ⟨rfl, rfl⟩
  | succ k ih =>
    intro hk h
    obtain ⟨i1, i2⟩ := ih (by omega) (fun i hi => h i (by omega))
    obtain ⟨⟨a1, a2, a3⟩, b1, b2⟩ := sw_b hB0 hB k (by omega) (fun i hi => h i (by omega))
    have ew : sww fl w (k + 1) = if fl k = true then sww fl w k + Int32.toInt64 (w k) else sww fl w k := rfl
    have ev : swv fl v w (k + 1) = if fl k = true then swv fl v w k + Int32.toInt64 (w k) * v k else swv fl v w k := rfl
    have fw : sI fl (fun i => (w i).toInt) (k + 1) = if fl k = true then sI fl (fun i => (w i).toInt) k + (w k).toInt else sI fl (fun i => (w i).toInt) k := rfl
    have fv : sI fl (fun i => (w i).toInt * (v i).toInt) (k + 1) = if fl k = true then sI fl (fun i => (w i).toInt * (v i).toInt) k + (w k).toInt * (v k).toInt else sI fl (fun i => (w i).toInt * (v i).toInt) k := rfl
    rw [ew, ev, fw, fv]
    by_cases c : fl k = true
    · obtain ⟨⟨c1, c2⟩, c3, c4⟩ := h k (by omega) c
      have m1 : (w k).toInt * (v k).toInt ≤ (w k).toInt * B := Int.mul_le_mul_of_nonneg_left c4 (by omega)
      have m2 : (w k).toInt * (-B) ≤ (w k).toInt * (v k).toInt := Int.mul_le_mul_of_nonneg_left c3 (by omega)
      have m3 : (w k).toInt * B ≤ 1000 * B := Int.mul_le_mul_of_nonneg_right c2 hB0
      have m4 : B * (sww fl w k).toInt ≤ B * 4000 := Int.mul_le_mul_of_nonneg_left (by omega) hB0
      rw [Int.mul_neg] at m2
      have e1 : (sww fl w k + Int32.toInt64 (w k)).toInt = (sww fl w k).toInt + (w k).toInt := by rw [fb_addL] <;> rw [Int32.toInt_toInt64] <;> omega
      have e2 : (Int32.toInt64 (w k) * v k).toInt = (w k).toInt * (v k).toInt := by rw [fb_mulL] <;> rw [Int32.toInt_toInt64] <;> omega
      have e3 : (swv fl v w k + Int32.toInt64 (w k) * v k).toInt = (swv fl v w k).toInt + (w k).toInt * (v k).toInt := by rw [fb_addL] <;> rw [e2] <;> omega
      rw [if_pos c, if_pos c, if_pos c, if_pos c, e1, e3, i1, i2]
      exact ⟨rfl, rfl⟩
    · rw [if_neg c, if_neg c, if_neg c, if_neg c]
      exact ⟨i1, i2⟩
theorem tdiv_ab {S W a b : Int} (hW : 0 < W) (h1 : a * W ≤ S) (h2 : S ≤ b * W) : a ≤ S.tdiv W ∧ S.tdiv W ≤ b := by
  rcases Int.le_total 0 S with q | q
  · rw [Int.tdiv_eq_ediv_of_nonneg q]
    exact ⟨(Int.le_ediv_iff_mul_le hW).mpr h1, Int.ediv_le_of_le_mul hW h2⟩
  · have e : S.tdiv W = -((-S).tdiv W) := by rw [Int.neg_tdiv, Int.neg_neg]
    rw [e, Int.tdiv_eq_ediv_of_nonneg (by omega)]
    have k1 : -b ≤ (-S) / W := (Int.le_ediv_iff_mul_le hW).mpr (by rw [Int.neg_mul]; omega)
    have k2 : (-S) / W ≤ -a := Int.ediv_le_of_le_mul hW (by rw [Int.neg_mul]; omega)
    omega
theorem JA.m1v {X : Mm} {sk : Int32} (h : JA X sk) : (m1 X sk).toInt = (sI (accF X sk) (fun i => (wgt X i).toInt * (vF X i).toInt) 4).tdiv (sI (accF X sk) (fun i => (wgt X i).toInt) 4) := by
  have hb : ∀ i, i < 4 → accF X sk i = true → (1 ≤ (wgt X i).toInt ∧ (wgt X i).toInt ≤ 1000) ∧ -100000 ≤ (Int32.toInt64 (vF X i)).toInt ∧ (Int32.toInt64 (vF X i)).toInt ≤ 100000 := fun i hi hf => by
    rw [Int32.toInt_toInt64]
    have := h.1 i hi hf
    exact ⟨this.2, this.1⟩
  obtain ⟨⟨a1, a2, a3⟩, -⟩ := sw_b (fl := accF X sk) (v := fun i => Int32.toInt64 (vF X i)) (w := wgt X) (B := 100000) (by decide) (by decide) 4 (by decide) hb
  obtain ⟨e1, e2⟩ := sw_int (fl := accF X sk) (v := fun i => Int32.toInt64 (vF X i)) (w := wgt X) (B := 100000) (by decide) (by decide) 4 (by decide) hb
  have a4 := a3 h.2.2.2.2.2
  have n1 : sww (accF X sk) (wgt X) 4 ≠ -1 := fun q => by rw [q] at a4; exact absurd a4 (by decide)
  unfold m1
  rw [Int64.toInt_div_of_ne_right _ _ n1, e1, e2]
  simp only [Int32.toInt_toInt64]
theorem JA.m2v {X : Mm} {sk : Int32} (h : JA X sk) : (m2 X sk).toInt = (sI (asF X sk) (fun i => (wgt X i).toInt * (vv X sk i).toInt) 4).tdiv (sI (asF X sk) (fun i => (wgt X i).toInt) 4) ∧ 0 < sI (asF X sk) (fun i => (wgt X i).toInt) 4 := by
  have hb : ∀ i, i < 4 → asF X sk i = true → (1 ≤ (wgt X i).toInt ∧ (wgt X i).toInt ≤ 1000) ∧ -500000 ≤ (Int32.toInt64 (vv X sk i)).toInt ∧ (Int32.toInt64 (vv X sk i)).toInt ≤ 500000 := fun i hi hf => by
    rw [Int32.toInt_toInt64]
    have := h.v hi hf
    exact ⟨this.2, this.1⟩
  obtain ⟨⟨a1, a2, a3⟩, -⟩ := sw_b (fl := asF X sk) (v := fun i => Int32.toInt64 (vv X sk i)) (w := wgt X) (B := 500000) (by decide) (by decide) 4 (by decide) hb
  obtain ⟨e1, e2⟩ := sw_int (fl := asF X sk) (v := fun i => Int32.toInt64 (vv X sk i)) (w := wgt X) (B := 500000) (by decide) (by decide) 4 (by decide) hb
  have a4 := a3 (by
    obtain ⟨i, i1, i2⟩ := h.2.2.2.2.2
    exact ⟨i, i1, by unfold asF; rw [i2]; rfl⟩)
  have n1 : sww (asF X sk) (wgt X) 4 ≠ -1 := fun q => by rw [q] at a4; exact absurd a4 (by decide)
  refine ⟨?_, by omega⟩
  unfold m2
  rw [Int64.toInt_div_of_ne_right _ _ n1, e1, e2]
  simp only [Int32.toInt_toInt64]
theorem JA.mean {X : Mm} {sk : Int32} (h : JA X sk) {a b : Int} (hv : ∀ i, i < 4 → asF X sk i = true → a ≤ (vv X sk i).toInt ∧ (vv X sk i).toInt ≤ b) : a ≤ (mnX X sk).toInt ∧ (mnX X sk).toInt ≤ b := by
  obtain ⟨e1, e2⟩ := h.m2v
  rw [h.2.2.2.1.2, e1]
  obtain ⟨k1, k2⟩ := sI_btw (fl := asF X sk) (g := fun i => (wgt X i).toInt * (vv X sk i).toInt) (w := fun i => (wgt X i).toInt) (a := a) (b := b) 4 (fun i hi hf => by
    obtain ⟨q1, q2⟩ := hv i hi hf
    have w1 := (h.v hi hf).2.1
    have p1 : (wgt X i).toInt * a ≤ (wgt X i).toInt * (vv X sk i).toInt := Int.mul_le_mul_of_nonneg_left q1 (by omega)
    have p2 : (wgt X i).toInt * (vv X sk i).toInt ≤ (wgt X i).toInt * b := Int.mul_le_mul_of_nonneg_left q2 (by omega)
    show a * (wgt X i).toInt ≤ (wgt X i).toInt * (vv X sk i).toInt ∧ (wgt X i).toInt * (vv X sk i).toInt ≤ b * (wgt X i).toInt
    rw [Int.mul_comm a, Int.mul_comm b]
    exact ⟨p1, p2⟩)
  exact tdiv_ab e2 k1 k2
/-! velocities from two times -/
def clampI (x : Int) : Int := if x ≤ 100000 then (if -100000 ≤ x then x else -100000) else 100000
theorem lim_val {x : Int64} {X : Mm} : ∃ v, f_X10_limited x 100000 X = some v ∧ v.toInt = clampI x.toInt := by
  have e1 : (Int32.toInt64 (100000 : Int32)).toInt = 100000 := rfl
  have e2 : (Int32.toInt64 (-(100000 : Int32))).toInt = -100000 := rfl
  unfold f_X10_limited clampI
  by_cases h : x ≤ Int32.toInt64 (100000 : Int32)
  · rw [if_pos h]
    rw [j_le, e1] at h
    rw [if_pos h]
    by_cases h2 : Int32.toInt64 (-(100000 : Int32)) ≤ x
    · rw [if_pos h2]
      rw [j_le, e2] at h2
      rw [if_pos h2]
      exact ⟨_, rfl, by rw [Int64.toInt_toInt32, fb_bmod (by omega) (by omega)]⟩
    · rw [if_neg h2]
      rw [j_le, e2] at h2
      rw [if_neg h2]
      exact ⟨_, rfl, rfl⟩
  · rw [if_neg h]
    rw [j_le, e1] at h
    rw [if_neg h]
    exact ⟨_, rfl, rfl⟩
theorem clampI_neg (x : Int) : clampI (-x) = -clampI x := by
  unfold clampI
  by_cases a : x ≤ 100000
  · rw [if_pos a]
    by_cases b : -100000 ≤ x
    · rw [if_pos b, if_pos (show -x ≤ 100000 by omega), if_pos (show -100000 ≤ -x by omega)]
    · rw [if_neg b, if_neg (show ¬ -x ≤ 100000 by omega)]; omega
  · rw [if_neg a, if_pos (show -x ≤ 100000 by omega), if_neg (show ¬ -100000 ≤ -x by omega)]
theorem clampI_b (x : Int) : -100000 ≤ clampI x ∧ clampI x ≤ 100000 := by
  unfold clampI
  by_cases a : x ≤ 100000
  · rw [if_pos a]
    by_cases b : -100000 ≤ x
    · rw [if_pos b]; omega
    · rw [if_neg b]; omega
  · rw [if_neg a]; omega
/-- a path's make -/
def MK (A : Nat → Int32) : Prop := (50 ≤ (A 0).toInt ∧ (A 0).toInt ≤ 2000) ∧ (10 ≤ (A 1).toInt ∧ (A 1).toInt ≤ (A 0).toInt) ∧ 0 ≤ A 4 ∧ A 4 ≤ 5000
theorem PL.mk {A S p : Nat → Int32} (h : PL A S p) : MK A := by
  obtain ⟨⟨⟨l1, l2, l3, l4⟩, -, -, d0, d1⟩, -⟩ := h
  rw [i_le] at l1 l2 l3 l4
  have e1 : (50 : Int32).toInt = 50 := rfl
  have e2 : (2000 : Int32).toInt = 2000 := rfl
  have e3 : (10 : Int32).toInt = 10 := rfl
  exact ⟨⟨by omega, by omega⟩, ⟨by omega, by omega⟩, d0, d1⟩
theorem vel_val {X : Mm} {k : Nat} (hm : MK (X.1 k)) {t u : Int32} (ht : tmOK (X.1 k 4) t) (hu : tmOK (X.1 k 4) u) : ∃ v, f_X3_velocityFrom k t u X = some v ∧
    v.toInt = clampI (((((X.1 k 0).toInt * (X.1 k 0).toInt * 500000).tdiv (X.1 k 1).toInt) * (u.toInt - t.toInt)).tdiv (((t.toInt - (X.1 k 4).toInt) * (u.toInt - (X.1 k 4).toInt)).tdiv 1000)) := by
  obtain ⟨⟨l1, l2⟩, ⟨x1, x2⟩, d0, d1⟩ := hm
  obtain ⟨a1, a2, a3⟩ := net_rng d0 d1 ht
  obtain ⟨b1, b2, b3⟩ := net_rng d0 d1 hu
  obtain ⟨p1, p2⟩ := prod_rng a2 a3 b2 b3
  have n1 := net_ne d0 d1 ht hu
  have n2 : ¬ Int32.toInt64 (X.1 k 1) = 0 := fun q => by
    rw [j_eq, Int32.toInt_toInt64, show (0 : Int64).toInt = 0 from rfl] at q
    omega
  unfold f_X3_velocityFrom
  simp only [lt1_s]
  rw [show gI X k 0 = X.1 k 0 from rfl, show gI X k 1 = X.1 k 1 from rfl, show gI X k 4 = X.1 k 4 from rfl, quot n2, ob1_s, quot n1, ob1_s]
  have s1 : (X.1 k 0).toInt * (X.1 k 0).toInt ≤ 2000 * 2000 := Int.mul_le_mul l2 l2 (by omega) (by decide)
  have s0 : 0 ≤ (X.1 k 0).toInt * (X.1 k 0).toInt := Int.mul_nonneg (by omega) (by omega)
  have q1 : (Int32.toInt64 (X.1 k 0) * Int32.toInt64 (X.1 k 0)).toInt = (X.1 k 0).toInt * (X.1 k 0).toInt := by rw [fb_mulL] <;> rw [Int32.toInt_toInt64] <;> omega
  have f5 : (500000 : Int64).toInt = 500000 := rfl
  have q2 : (Int32.toInt64 (X.1 k 0) * Int32.toInt64 (X.1 k 0) * (500000 : Int64)).toInt = (X.1 k 0).toInt * (X.1 k 0).toInt * 500000 := by rw [fb_mulL, q1, f5] <;> rw [q1, f5] <;> omega
  have na : Int32.toInt64 (X.1 k 1) ≠ -1 := fun q => by
    have := congrArg Int64.toInt q
    rw [Int32.toInt_toInt64, show (-1 : Int64).toInt = -1 from rfl] at this
    omega
  have q3 : (Int32.toInt64 (X.1 k 0) * Int32.toInt64 (X.1 k 0) * (500000 : Int64) / Int32.toInt64 (X.1 k 1)).toInt = ((X.1 k 0).toInt * (X.1 k 0).toInt * 500000).tdiv (X.1 k 1).toInt := by
    rw [Int64.toInt_div_of_ne_right _ _ na, q2, Int32.toInt_toInt64]
  have r3 : 0 ≤ ((X.1 k 0).toInt * (X.1 k 0).toInt * 500000).tdiv (X.1 k 1).toInt ∧ ((X.1 k 0).toInt * (X.1 k 0).toInt * 500000).tdiv (X.1 k 1).toInt ≤ 200000000000 := by
    refine tdiv_ab (by omega) (by omega) ?_
    have : 200000000000 * 10 ≤ 200000000000 * (X.1 k 1).toInt := Int.mul_le_mul_of_nonneg_left x1 (by decide)
    omega
  have q4 : (Int32.toInt64 (u - X.1 k 4) - Int32.toInt64 (t - X.1 k 4)).toInt = u.toInt - t.toInt := by rw [fb_subL] <;> rw [Int32.toInt_toInt64, Int32.toInt_toInt64] <;> omega
  have m5 : (((X.1 k 0).toInt * (X.1 k 0).toInt * 500000).tdiv (X.1 k 1).toInt) * (u.toInt - t.toInt) ≤ 200000000000 * 10100000 := by
    refine Int.le_trans (Int.mul_le_mul_of_nonneg_left (show u.toInt - t.toInt ≤ 10100000 by omega) r3.1) (Int.mul_le_mul_of_nonneg_right r3.2 (by decide))
  have m6 : -(200000000000 * 10100000) ≤ (((X.1 k 0).toInt * (X.1 k 0).toInt * 500000).tdiv (X.1 k 1).toInt) * (u.toInt - t.toInt) := by
    have z1 := Int.mul_le_mul_of_nonneg_left (show t.toInt - u.toInt ≤ 10100000 by omega) r3.1
    have z2 := Int.mul_le_mul_of_nonneg_right r3.2 (show (0 : Int) ≤ 10100000 by decide)
    have z3 : (((X.1 k 0).toInt * (X.1 k 0).toInt * 500000).tdiv (X.1 k 1).toInt) * (t.toInt - u.toInt) = -((((X.1 k 0).toInt * (X.1 k 0).toInt * 500000).tdiv (X.1 k 1).toInt) * (u.toInt - t.toInt)) := by rw [← Int.mul_neg, Int.neg_sub]
    omega
  have q5 : (Int32.toInt64 (X.1 k 0) * Int32.toInt64 (X.1 k 0) * (500000 : Int64) / Int32.toInt64 (X.1 k 1) * (Int32.toInt64 (u - X.1 k 4) - Int32.toInt64 (t - X.1 k 4))).toInt = (((X.1 k 0).toInt * (X.1 k 0).toInt * 500000).tdiv (X.1 k 1).toInt) * (u.toInt - t.toInt) := by rw [fb_mulL] <;> rw [q3, q4] <;> omega
  have q6 : (Int32.toInt64 (t - X.1 k 4) * Int32.toInt64 (u - X.1 k 4)).toInt = (t.toInt - (X.1 k 4).toInt) * (u.toInt - (X.1 k 4).toInt) := by rw [fb_mulL] <;> rw [Int32.toInt_toInt64, Int32.toInt_toInt64, a1, b1] <;> omega
  have q7 : (Int32.toInt64 (t - X.1 k 4) * Int32.toInt64 (u - X.1 k 4) / (1000 : Int64)).toInt = ((t.toInt - (X.1 k 4).toInt) * (u.toInt - (X.1 k 4).toInt)).tdiv 1000 := by
    rw [Int64.toInt_div_of_ne_right _ _ (by decide), q6]
    rfl
  have r7 : 1000 ≤ ((t.toInt - (X.1 k 4).toInt) * (u.toInt - (X.1 k 4).toInt)).tdiv 1000 := by
    rw [Int.tdiv_eq_ediv_of_nonneg (by omega)]
    omega
  have n7 : Int32.toInt64 (t - X.1 k 4) * Int32.toInt64 (u - X.1 k 4) / (1000 : Int64) ≠ -1 := fun q => by
    have := congrArg Int64.toInt q
    rw [q7, show (-1 : Int64).toInt = -1 from rfl] at this
    omega
  obtain ⟨v, e1, e2⟩ := lim_val (X := X) (x := Int32.toInt64 (X.1 k 0) * Int32.toInt64 (X.1 k 0) * (500000 : Int64) / Int32.toInt64 (X.1 k 1) * (Int32.toInt64 (u - X.1 k 4) - Int32.toInt64 (t - X.1 k 4)) / (Int32.toInt64 (t - X.1 k 4) * Int32.toInt64 (u - X.1 k 4) / (1000 : Int64)))
  rw [e1, ob1_s]
  refine ⟨v, rfl, ?_⟩
  rw [e2, Int64.toInt_div_of_ne_right _ _ n7, q5, q7]
theorem vel_neg {X X' : Mm} {k : Nat} (hm : MK (X.1 k)) (h0 : X'.1 k 0 = X.1 k 0) (h1 : X'.1 k 1 = X.1 k 1) (h4 : X'.1 k 4 = X.1 k 4) {t u : Int32} (ht : tmOK (X.1 k 4) t) (hu : tmOK (X.1 k 4) u) : ∃ v w, f_X3_velocityFrom k t u X = some v ∧ f_X3_velocityFrom k u t X' = some w ∧ w.toInt = -v.toInt ∧ -100000 ≤ v.toInt ∧ v.toInt ≤ 100000 := by
  obtain ⟨v, e1, e2⟩ := vel_val hm ht hu
  have hm' : MK (X'.1 k) := by
    unfold MK
    rw [h0, h1, h4]
    exact hm
  obtain ⟨w, f1, f2⟩ := vel_val (X := X') hm' (t := u) (u := t) (by rw [h4]; exact hu) (by rw [h4]; exact ht)
  refine ⟨v, w, e1, f1, ?_, ?_⟩
  · rw [f2, e2, h0, h1, h4, ← clampI_neg, ← Int.neg_tdiv, ← Int.mul_neg, Int.neg_sub, Int.mul_comm (u.toInt - _)]
  · rw [e2]
    exact clampI_b _
/-! swapped states -/
def SwE (X X' : Mm) : Prop := (∀ q, q < 4 → X'.1 (2 + 2 * q) = sw6 (X.1 (2 + 2 * q)) ∧ X'.1 (3 + 2 * q) = sw1 (X.1 (3 + 2 * q))) ∧ (∀ o, 10 ≤ o → o < 28 → X'.1 o = X.1 o) ∧ (∀ j, j ≠ 4 → X'.1 0 j = X.1 0 j) ∧ X'.2 0 = X.2 0
section SWAPS
variable {X X' : Mm} {sk : Int32}
theorem sw_hv (h : SwE X X') {i : Nat} (hi : i < 4) : hvI X' i = hvI X i := by
  unfold hvI
  rw [(h.1 i hi).1, (h.1 i hi).2, h.2.1 13 (by decide) (by decide)]
  rfl
theorem sw_sh0 (h : SwE X X') {i : Nat} (hi : i < 4) : sh0 X' 0 i = sh0 X 1 i ∧ sh0 X' 1 i = sh0 X 0 i := by
  unfold sh0
  rw [sw_hv h hi, (h.1 i hi).1, (h.1 i hi).2]
  exact ⟨rfl, rfl⟩
theorem sw_allW (h : SwE X X') : allW X' = allW X := sm_congr (fun i hi => by
  show (if hvI X' i = 0 then 0 else X'.1 (2 + 2 * i) 2) = _
  rw [sw_hv h hi, (h.1 i hi).1]
  rfl)
theorem sw_wt (h : SwE X X') (s : Int32) : wt X' 0 s = wt X 1 s ∧ wt X' 1 s = wt X 0 s := ⟨sm_congr (fun i hi => by
  show (if hvI X' i = 0 then 0 else if sh0 X' 0 i = s then X'.1 (2 + 2 * i) 2 else 0) = _
  rw [sw_hv h hi, (sw_sh0 h hi).1, (h.1 i hi).1]
  rfl), sm_congr (fun i hi => by
  show (if hvI X' i = 0 then 0 else if sh0 X' 1 i = s then X'.1 (2 + 2 * i) 2 else 0) = _
  rw [sw_hv h hi, (sw_sh0 h hi).2, (h.1 i hi).1]
  rfl)⟩
theorem sw_tru (h : SwE X X') (s : Int32) : tru X' 0 s = tru X 1 s ∧ tru X' 1 s = tru X 0 s := by
  unfold tru
  rw [(sw_wt h s).1, (sw_wt h s).2, sw_allW h, h.2.1 13 (by decide) (by decide)]
  exact ⟨rfl, rfl⟩
theorem sw_shf (h : SwE X X') {i : Nat} (hi : i < 4) : shf X' 0 i = shf X 1 i ∧ shf X' 1 i = shf X 0 i := by
  unfold shf
  rw [(sw_sh0 h hi).1, (sw_sh0 h hi).2, (sw_tru h _).1, (sw_tru h _).2]
  exact ⟨rfl, rfl⟩
theorem sw_tm (h : SwE X X') {i : Nat} (hi : i < 4) : tm X' 0 i = tm X 1 i ∧ tm X' 1 i = tm X 0 i := by
  unfold tm
  rw [(sw_shf h hi).1, (sw_shf h hi).2, (h.1 i hi).1, (h.1 i hi).2]
  exact ⟨rfl, rfl⟩
theorem jmax_comm (a b : Int32) : jmax a b = jmax b a := by
  unfold jmax
  by_cases h : a < b
  · rw [if_pos h, if_neg]
    intro q
    rw [i_lt] at h q
    omega
  · rw [if_neg h]
    by_cases h2 : b < a
    · rw [if_pos h2]
    · rw [if_neg h2, i_eq]
      rw [i_lt] at h h2
      omega
theorem sw_skp (h : SwE X X') {i : Nat} (hi : i < 4) : skp X' i = skp X i := by
  unfold skp
  rw [(sw_shf h hi).1, (sw_shf h hi).2, jmax_comm]
theorem sw_outc (h : SwE X X') (sk : Int32) {i : Nat} (hi : i < 4) : outc X' sk i = outc X sk i := by
  have e0 : X'.1 (3 + 2 * i) 0 = X.1 (3 + 2 * i) 0 := by rw [(h.1 i hi).2]; rfl
  have e3 : X'.1 (3 + 2 * i) 3 = X.1 (3 + 2 * i) 3 := by rw [(h.1 i hi).2]; rfl
  have e4 : X'.1 (2 + 2 * i) 4 = X.1 (2 + 2 * i) 4 := by rw [(h.1 i hi).1]; rfl
  unfold outc
  rw [sw_skp h hi, (sw_tm h hi).1, (sw_tm h hi).2, h.2.1 13 (by decide) (by decide), e0, e3, e4]
  by_cases c1 : tm X 0 i - X.1 (2 + 2 * i) 4 < 1000
  · by_cases c2 : tm X 1 i - X.1 (2 + 2 * i) 4 < 1000
    · simp only [if_pos c1, if_pos c2]
    · simp only [if_pos c1, if_neg c2]
  · by_cases c2 : tm X 1 i - X.1 (2 + 2 * i) 4 < 1000
    · simp only [if_pos c2, if_neg c1]
    · simp only [if_neg c2, if_neg c1]
theorem sw_acc (h : SwE X X') (sk : Int32) {i : Nat} (hi : i < 4) : accF X' sk i = accF X sk i := by
  unfold accF
  rw [sw_outc h sk hi]
theorem sw_sub (h : SwE X X') (sk : Int32) {i : Nat} (hi : i < 4) : subF X' (accF X' sk) i = subF X (accF X sk) i := by
  unfold subF
  rw [sw_acc h sk hi, (h.1 i hi).1]
  rfl
theorem sw_as (h : SwE X X') (sk : Int32) {i : Nat} (hi : i < 4) : asF X' sk i = asF X sk i := by
  unfold asF
  rw [sw_acc h sk hi, sw_sub h sk hi]
theorem sw_w (h : SwE X X') {i : Nat} (hi : i < 4) : wgt X' i = wgt X i := by
  unfold wgt
  rw [(h.1 i hi).1]
  rfl
end SWAPS
theorem sub64_v {X : Mm} {m : Int32} {i : Nat} : (sub64 X m i).toInt = (m.toInt * (X.1 (2 + 2 * i) 9).toInt).tdiv 1000 := by
  have r1 := fb_rng m
  have r2 := fb_rng (X.1 (2 + 2 * i) 9)
  have p : -4611686018427387904 ≤ m.toInt * (X.1 (2 + 2 * i) 9).toInt ∧ m.toInt * (X.1 (2 + 2 * i) 9).toInt ≤ 4611686018427387904 := by
    have hn : (m.toInt * (X.1 (2 + 2 * i) 9).toInt).natAbs ≤ 2147483648 * 2147483648 := by
      rw [Int.natAbs_mul]
      exact Nat.mul_le_mul (by omega) (by omega)
    omega
  unfold sub64
  rw [Int64.toInt_div_of_ne_right _ _ (by decide), fb_mulL, Int32.toInt_toInt64, Int32.toInt_toInt64]
  · rfl
  · rw [Int32.toInt_toInt64, Int32.toInt_toInt64]; omega
  · rw [Int32.toInt_toInt64, Int32.toInt_toInt64]; omega
theorem sw_vF {X X' Y : Mm} {sk : Int32} {n i : Nat} (h : SwE X X') (hL : Lk X Y n) (hn : n ≤ 4) (hi : i < n) (hk : sk ≤ 5) (ha : accF X sk i = true) : (vF X' i).toInt = -(vF X i).toInt := by
  have i4 : i < 4 := by omega
  have ho : ¬ outc X sk i < 3 := of_decide_eq_true ha
  obtain ⟨-, ht⟩ := acc_tm hL hi hk ho
  obtain ⟨v, w, e1, e2, e3, -⟩ := vel_neg (X := X) (X' := X') (k := 2 + 2 * i) (hL.1 i hi).mk (by rw [(h.1 i i4).1]; rfl) (by rw [(h.1 i i4).1]; rfl) (by rw [(h.1 i i4).1]; rfl) (ht 0 (by decide)) (ht 1 (by decide))
  unfold vF
  rw [(sw_tm h i4).1, (sw_tm h i4).2, e1, e2]
  exact e3
theorem sw_rv {X X' Y : Mm} {sk : Int32} {n : Nat} (h : SwE X X') (hL : Lk X Y n) (hn : n ≤ 4) (hx : ∀ i, n ≤ i → i < 4 → accF X sk i = false) (hk : sk ≤ 5) (hA : JA X sk) (hA' : JA X' sk) : (rvX X' sk).toInt = -(rvX X sk).toInt := by
  have aN : ∀ i, i < 4 → accF X sk i = true → i < n := fun i hi hf => by
    rcases Nat.lt_or_ge i n with q | q
    · exact q
    · rw [hx i q hi] at hf; exact absurd hf (by decide)
  have m1n : (m1 X' sk).toInt = -(m1 X sk).toInt := by
    rw [hA.m1v, hA'.m1v, ← Int.neg_tdiv, sI_neg 4 (fun i hi => sw_acc h sk hi) (fun i hi hf => by rw [sw_w h hi, sw_vF h hL hn (aN i hi hf) hk hf, Int.mul_neg]), sI_congr (g' := fun i => (wgt X' i).toInt) (g := fun i => (wgt X i).toInt) 4 (fun i hi => sw_acc h sk hi) (fun i hi _ => by rw [sw_w h hi])]
  have t1 : (Int64.toInt32 (m1 X sk)).toInt = (m1 X sk).toInt := by have := hA.2.1; rw [Int64.toInt_toInt32, fb_bmod (by omega) (by omega)]
  have t1' : (Int64.toInt32 (m1 X' sk)).toInt = (m1 X' sk).toInt := by have := hA'.2.1; rw [Int64.toInt_toInt32, fb_bmod (by omega) (by omega)]
  have vn : ∀ i, i < 4 → asF X sk i = true → (vv X' sk i).toInt = -(vv X sk i).toInt := fun i hi hf => by
    unfold vv
    rw [sw_acc h sk hi, sw_sub h sk hi]
    by_cases c : accF X sk i = true
    · rw [if_pos c, if_pos c]
      exact sw_vF h hL hn (aN i hi c) hk c
    · have c2 : subF X (accF X sk) i = true := by
        unfold asF at hf
        rw [Bool.or_eq_true] at hf
        exact hf.resolve_left c
      obtain ⟨⟨q1, q2⟩, -⟩ := hA.2.2.1 i hi c2
      obtain ⟨⟨q1', q2'⟩, -⟩ := hA'.2.2.1 i hi (by rw [sw_sub h sk hi]; exact c2)
      rw [if_neg c, if_neg c, if_pos c2, if_pos c2, Int64.toInt_toInt32, Int64.toInt_toInt32, fb_bmod (by omega) (by omega), fb_bmod (by omega) (by omega), sub64_v, sub64_v, t1, t1', m1n, ← Int.neg_tdiv, ← Int.neg_mul, show X'.1 (2 + 2 * i) 9 = X.1 (2 + 2 * i) 9 by rw [(h.1 i hi).1]; rfl]
  have mn : (mnX X' sk).toInt = -(mnX X sk).toInt := by
    rw [hA.2.2.2.1.2, hA'.2.2.2.1.2, hA.m2v.1, hA'.m2v.1, ← Int.neg_tdiv, sI_neg 4 (fun i hi => sw_as h sk hi) (fun i hi hf => by rw [sw_w h hi, vn i hi hf, Int.mul_neg]), sI_congr (g' := fun i => (wgt X' i).toInt) (g := fun i => (wgt X i).toInt) 4 (fun i hi => sw_as h sk hi) (fun i hi _ => by rw [sw_w h hi])]
  have mb : -500000 ≤ (mnX X sk).toInt ∧ (mnX X sk).toInt ≤ 500000 := by
    rw [hA.2.2.2.1.2]
    exact hA.2.2.2.1.1
  have me : mnX X' sk = -mnX X sk := by rw [i_eq, mn, fb_negI (by omega)]
  have fe : ffX X' (mnX X' sk) = ffX X (mnX X sk) := by
    unfold ffX
    rw [ff_congr (X := X) (X' := X') (congrFun (h.2.1 10 (by decide) (by decide)) 2) (fun k _ => congrFun (h.2.1 11 (by decide) (by decide)) k) (fun k _ => congrFun (h.2.1 12 (by decide) (by decide)) k), me, ff_abs (jabs_neg (by omega) (by omega))]
  rw [hA.rv.2.2, hA'.rv.2.2, fe, mn, ← Int.neg_tdiv, Int.neg_mul]

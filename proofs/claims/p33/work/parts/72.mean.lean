/-! JUDGING, 6: sets of paths, means, substitutes -/
def fb1 (b : Bool) (k : Nat) (z : Int32) : Int32 := if b = true then z ||| ((1 : Int32) <<< (nI k &&& 31)) else z
def bitset (fl : Nat → Bool) : Nat → Int32
  | 0 => 0
  | k + 1 => fb1 (fl k) k (bitset fl k)
def bt4 (b0 b1 b2 b3 : Bool) : Int32 := fb1 b3 3 (fb1 b2 2 (fb1 b1 1 (fb1 b0 0 0)))
def sel4 (b0 b1 b2 b3 : Bool) (i : Nat) : Bool := match i with
  | 0 => b0
  | 1 => b1
  | 2 => b2
  | _ => b3
theorem bt4_c : ∀ b0 b1 b2 b3 : Bool, ∀ i, i < 4 → ((bt4 b0 b1 b2 b3 >>> (nI i &&& 31)) &&& (1 : Int32) = 0 ↔ sel4 b0 b1 b2 b3 i = false) := by decide +kernel
theorem bt4_c2 : ∀ b0 b1 b2 b3 c0 c1 c2 c3 : Bool, bt4 b0 b1 b2 b3 ||| bt4 c0 c1 c2 c3 = bt4 (b0 || c0) (b1 || c1) (b2 || c2) (b3 || c3) := by decide +kernel
theorem bt4_0 : ∀ b0 b1 b2 b3 : Bool, bt4 b0 b1 b2 b3 = 0 ↔ b0 = false ∧ b1 = false ∧ b2 = false ∧ b3 = false := by decide +kernel
theorem bitset4 (fl : Nat → Bool) : bitset fl 4 = bt4 (fl 0) (fl 1) (fl 2) (fl 3) := rfl
theorem sel4_e (fl : Nat → Bool) {i : Nat} (hi : i < 4) : sel4 (fl 0) (fl 1) (fl 2) (fl 3) i = fl i := by
  have : i = 0 ∨ i = 1 ∨ i = 2 ∨ i = 3 := by omega
  rcases this with rfl | rfl | rfl | rfl <;> rfl
theorem con {fl : Nat → Bool} {i : Nat} (hi : i < 4) {M : Mm} : f_X10_contains (bitset fl 4) (nI i) M = some (if fl i = true then 1 else 0) := by
  unfold f_X10_contains
  have h := bt4_c (fl 0) (fl 1) (fl 2) (fl 3) i hi
  rw [sel4_e fl hi] at h
  rw [bitset4]
  by_cases c : fl i = true
  · rw [if_pos c, if_neg (fun q => by rw [h.mp q] at c; exact absurd c (by decide))]
  · rw [if_neg c, if_pos (h.mpr (by simpa using c))]
theorem bitset_or {fl gl : Nat → Bool} : bitset fl 4 ||| bitset gl 4 = bitset (fun i => fl i || gl i) 4 := by
  rw [bitset4, bitset4, bitset4, bt4_c2]
theorem bitset_0 {fl : Nat → Bool} : bitset fl 4 = 0 ↔ ∀ i, i < 4 → fl i = false := by
  rw [bitset4, bt4_0]
  constructor
  · rintro ⟨h0, h1, h2, h3⟩ i hi
    have : i = 0 ∨ i = 1 ∨ i = 2 ∨ i = 3 := by omega
    rcases this with rfl | rfl | rfl | rfl <;> assumption
  · intro h
    exact ⟨h 0 (by decide), h 1 (by decide), h 2 (by decide), h 3 (by decide)⟩
theorem bitset_to {fl : Nat → Bool} {n m : Nat} (hn : n ≤ m) (h : ∀ i, n ≤ i → i < m → fl i = false) : bitset fl m = bitset fl n := by
  obtain ⟨d, rfl⟩ : ∃ d, m = n + d := ⟨m - n, by omega⟩
  clear hn
  induction d with
  | zero => rfl
  | succ d ih =>
    show fb1 (fl (n + d)) (n + d) (bitset fl (n + d)) = _
    rw [h (n + d) (by omega) (by omega), ih (fun i h1 h2 => h i h1 (by omega))]
    rfl
def accF (X : Mm) (sk : Int32) (i : Nat) : Bool := decide (¬ outc X sk i < 3)
theorem acb_b {X : Mm} {sk : Int32} : ∀ k, acb X sk k = bitset (accF X sk) k := by
  intro k
  induction k with
  | zero => rfl
  | succ k ih =>
    show (if outc X sk k < 3 then acb X sk k else acb X sk k ||| ((1 : Int32) <<< (nI k &&& 31))) = if decide (¬ outc X sk k < 3) = true then bitset (accF X sk) k ||| ((1 : Int32) <<< (nI k &&& 31)) else bitset (accF X sk) k
    rw [ih]
    by_cases c : outc X sk k < 3
    · rw [if_pos c, if_neg (by simpa using c)]
    · rw [if_neg c, if_pos (by simpa using c)]
/-! sums over a set -/
def swv (fl : Nat → Bool) (v : Nat → Int64) (w : Nat → Int32) : Nat → Int64
  | 0 => 0
  | k + 1 => if fl k = true then swv fl v w k + Int32.toInt64 (w k) * v k else swv fl v w k
def sww (fl : Nat → Bool) (w : Nat → Int32) : Nat → Int64
  | 0 => 0
  | k + 1 => if fl k = true then sww fl w k + Int32.toInt64 (w k) else sww fl w k
theorem swv_to {fl : Nat → Bool} {v : Nat → Int64} {w : Nat → Int32} {n m : Nat} (hn : n ≤ m) (h : ∀ i, n ≤ i → i < m → fl i = false) : swv fl v w m = swv fl v w n ∧ sww fl w m = sww fl w n := by
  obtain ⟨d, rfl⟩ : ∃ d, m = n + d := ⟨m - n, by omega⟩
  clear hn
  induction d with
  | zero => exact ⟨rfl, rfl⟩
  | succ d ih =>
    obtain ⟨i1, i2⟩ := ih (fun i h1 h2 => h i h1 (by omega))
    have e := h (n + d) (by omega) (by omega)
    constructor
    · show (if fl (n + d) = true then _ else swv fl v w (n + d)) = _
      rw [e, if_neg (by decide), i1]
    · show (if fl (n + d) = true then _ else sww fl w (n + d)) = _
      rw [e, if_neg (by decide), i2]
theorem swv_congr {fl : Nat → Bool} {v v' : Nat → Int64} {w : Nat → Int32} : ∀ n : Nat, (∀ i, i < n → fl i = true → v i = v' i) → swv fl v w n = swv fl v' w n := by
  intro n
  induction n with
  | zero => intro _; rfl
  | succ n ih =>
    intro h
    show (if fl n = true then swv fl v w n + _ * v n else swv fl v w n) = if fl n = true then swv fl v' w n + _ * v' n else swv fl v' w n
    rw [ih (fun i hi => h i (by omega))]
    by_cases c : fl n = true
    · rw [if_pos c, if_pos c, h n (by omega) c]
    · rw [if_neg c, if_neg c]
theorem sw_b {fl : Nat → Bool} {v : Nat → Int64} {w : Nat → Int32} {B : Int} (hB0 : 0 ≤ B) (hB : B ≤ 500000) : ∀ k : Nat, k ≤ 4 → (∀ i, i < k → fl i = true → (1 ≤ (w i).toInt ∧ (w i).toInt ≤ 1000) ∧ -B ≤ (v i).toInt ∧ (v i).toInt ≤ B) →
    (0 ≤ (sww fl w k).toInt ∧ (sww fl w k).toInt ≤ 1000 * k ∧ ((∃ i, i < k ∧ fl i = true) → 1 ≤ (sww fl w k).toInt)) ∧ -(B * (sww fl w k).toInt) ≤ (swv fl v w k).toInt ∧ (swv fl v w k).toInt ≤ B * (sww fl w k).toInt := by
  intro k
  induction k with
  | zero =>
    intro _ _
    have z : (0 : Int64).toInt = 0 := rfl
    show (0 ≤ (0 : Int64).toInt ∧ (0 : Int64).toInt ≤ 1000 * ((0 : Nat) : Int) ∧ _) ∧ -(B * (0 : Int64).toInt) ≤ (0 : Int64).toInt ∧ (0 : Int64).toInt ≤ B * (0 : Int64).toInt
    rw [z, Int.mul_zero]
    exact ⟨⟨by omega, by omega, fun ⟨i, hi, _⟩ => absurd hi (by omega)⟩, by omega, by omega⟩
  | succ k ih =>
    intro hk h
    obtain ⟨⟨a1, a2, a3⟩, b1, b2⟩ := ih (by omega) (fun i hi => h i (by omega))
    have ew : sww fl w (k + 1) = if fl k = true then sww fl w k + Int32.toInt64 (w k) else sww fl w k := rfl
    have ev : swv fl v w (k + 1) = if fl k = true then swv fl v w k + Int32.toInt64 (w k) * v k else swv fl v w k := rfl
    by_cases c : fl k = true
    · obtain ⟨⟨c1, c2⟩, c3, c4⟩ := h k (by omega) c
      have m1 : (w k).toInt * (v k).toInt ≤ (w k).toInt * B := Int.mul_le_mul_of_nonneg_left c4 (by omega)
      have m2 : (w k).toInt * (-B) ≤ (w k).toInt * (v k).toInt := Int.mul_le_mul_of_nonneg_left c3 (by omega)
      have m3 : (w k).toInt * B ≤ 1000 * B := Int.mul_le_mul_of_nonneg_right c2 hB0
      have m4 : B * (sww fl w k).toInt ≤ B * 4000 := Int.mul_le_mul_of_nonneg_left (by omega) hB0
      rw [Int.mul_neg] at m2
      have e1 : (sww fl w k + Int32.toInt64 (w k)).toInt = (sww fl w k).toInt + (w k).toInt := by rw [fb_addL] <;> rw [Int32.toInt_toInt64] <;> omega
      have e2 : (Int32.toInt64 (w k) * v k).toInt = (w k).toInt * (v k).toInt := by rw [fb_mulL] <;> rw [Int32.toInt_toInt64] <;> omega
      have e3 : (swv fl v w k + Int32.toInt64 (w k) * v k).toInt = (swv fl v w k).toInt + (w k).toInt * (v k).toInt := by rw [fb_addL] <;> rw [e2] <;> omega
      rw [ew, ev, if_pos c, if_pos c, e1, e3, Int.mul_add, Int.mul_comm B (w k).toInt]
      refine ⟨⟨by omega, by omega, fun _ => by omega⟩, by omega, by omega⟩
    · rw [ew, ev, if_neg c, if_neg c]
      refine ⟨⟨a1, by omega, fun ⟨i, hi, q⟩ => a3 ⟨i, ?_, q⟩⟩, b1, b2⟩
      rcases Nat.eq_or_lt_of_le (show i ≤ k by omega) with e | e
      · subst e; exact absurd q c
      · exact e
theorem i32 (x : Int32) : Int64.toInt32 (Int32.toInt64 x) = x := by rw [i_eq, Int64.toInt_toInt32, Int32.toInt_toInt64, fb_bmod (fb_rng _).1 (fb_rng _).2]
theorem j32 {x : Int64} (h1 : -2147483648 ≤ x.toInt) (h2 : x.toInt < 2147483648) : Int32.toInt64 (Int64.toInt32 x) = x := by rw [j_eq, Int32.toInt_toInt64, Int64.toInt_toInt32, fb_bmod h1 h2]
theorem sw_mean {fl : Nat → Bool} {v : Nat → Int64} {w : Nat → Int32} {B : Int} {n : Nat} (hn : n ≤ 4) (hB0 : 0 ≤ B) (hB : B ≤ 500000) (h : ∀ i, i < n → fl i = true → (1 ≤ (w i).toInt ∧ (w i).toInt ≤ 1000) ∧ -B ≤ (v i).toInt ∧ (v i).toInt ≤ B) (hex : ∃ i, i < n ∧ fl i = true) : ¬ sww fl w n = 0 ∧ -B ≤ (swv fl v w n / sww fl w n).toInt ∧ (swv fl v w n / sww fl w n).toInt ≤ B := by
  obtain ⟨⟨a1, a2, a3⟩, b1, b2⟩ := sw_b hB0 hB n hn h
  have a4 := a3 hex
  have nz : ¬ sww fl w n = 0 := fun q => by rw [q] at a4; exact absurd a4 (by decide)
  have n1 : sww fl w n ≠ -1 := fun q => by rw [q] at a4; exact absurd a4 (by decide)
  rw [Int64.toInt_div_of_ne_right _ _ n1]
  exact ⟨nz, tdiv_bnd (by omega) b1 b2⟩
theorem x_wm {M : Mm} {set : Int32} {fl : Nat → Bool} (hs : set = bitset fl 4) : f_X2_weightedMean_L8 M set 1000 (0 : Int64) (0 : Int64) (0 : Int32) = some (swv fl (fun i => Int32.toInt64 (M.1 237 i)) (fun i => M.1 (2 + 2 * i) 2) 4, sww fl (fun i => M.1 (2 + 2 * i) 2) 4) := by
  subst hs
  obtain ⟨b, hb, h1, h2⟩ := lpUp (L := fun f x (s : Int64 × Int64) => f_X2_weightedMean_L8 M (bitset fl 4) f s.1 s.2 x) 4 (fun i (s : Int64 × Int64) => s.1 = swv fl (fun i => Int32.toInt64 (M.1 237 i)) (fun i => M.1 (2 + 2 * i) 2) i ∧ s.2 = sww fl (fun i => M.1 (2 + 2 * i) 2) i) (fun (s : Int64 × Int64) => s.1 = swv fl (fun i => Int32.toInt64 (M.1 237 i)) (fun i => M.1 (2 + 2 * i) 2) 4 ∧ s.2 = sww fl (fun i => M.1 (2 + 2 * i) 2) 4) (fun f s h => ⟨s, by
    show f_X2_weightedMean_L8 M (bitset fl 4) (f + 1) s.1 s.2 (nI 4) = _
    rw [f_X2_weightedMean_L8, if_pos (show (4 : Int32) ≤ nI 4 by decide)], h⟩) (fun f i s hi h => by
    obtain ⟨a, b⟩ := s
    obtain ⟨h1, h2⟩ := h
    show (∃ q, f_X2_weightedMean_L8 M (bitset fl 4) (f + 1) a b (nI i) = some q ∧ _) ∨ (∃ s' : Int64 × Int64, _ ∧ f_X2_weightedMean_L8 M (bitset fl 4) (f + 1) a b (nI i) = f_X2_weightedMean_L8 M (bitset fl 4) f s'.1 s'.2 (nI (i + 1)))
    rw [f_X2_weightedMean_L8, if_neg (show ¬ (4 : Int32) ≤ nI i from nI_ge hi (by decide)), con hi, ob1_s, ix_n (by omega)]
    simp only [chk_p (inb_n (c := i) (N := 4) hi (by decide)), lt1_s, rid50']
    by_cases c : fl i = true
    · rw [if_pos c, if_neg one_0, ob2_s, nI_1]
      refine Or.inr ⟨(a + Int32.toInt64 (gI M (2 + 2 * i) 2) * Int32.toInt64 (gI M 237 i), b + Int32.toInt64 (gI M (2 + 2 * i) 2)), ⟨?_, ?_⟩, rfl⟩
      · show a + _ = if fl i = true then _ else _
        rw [if_pos c, ← h1]
        rfl
      · show b + _ = if fl i = true then _ else _
        rw [if_pos c, ← h2]
        rfl
    · rw [if_neg c, if_pos rfl, ob2_s, nI_1]
      refine Or.inr ⟨(a, b), ⟨?_, ?_⟩, rfl⟩
      · show a = if fl i = true then _ else _
        rw [if_neg c]; exact h1
      · show b = if fl i = true then _ else _
        rw [if_neg c]; exact h2) (by decide) (s := ((0 : Int64), (0 : Int64))) ⟨rfl, rfl⟩
  obtain ⟨p, q⟩ := b
  obtain rfl : p = _ := h1
  obtain rfl : q = _ := h2
  exact hb
theorem y_wm {X M : Mm} {n : Nat} {fl : Nat → Bool} {v : Nat → Int64} (h : Lk X M n) (hn : n ≤ 4) (hF : ∀ i, i < n → M.1 13 i = if fl i = true then 1 else 0) (hv : ∀ i, i < n → fl i = true → M.2 12 i = v i) (hnz : ¬ sww fl (fun i => X.1 (2 + 2 * i) 2) n = 0) : f_X11_weighted M = some (swv fl v (fun i => X.1 (2 + 2 * i) 2) n / sww fl (fun i => X.1 (2 + 2 * i) 2) n) := by
  obtain ⟨b, hb, h1, h2⟩ := lpUp (L := fun f x (s : Int64 × Int64) => f_X11_weighted_L7 M f s.1 s.2 x) n (fun i (s : Int64 × Int64) => s.1 = swv fl v (fun i => X.1 (2 + 2 * i) 2) i ∧ s.2 = sww fl (fun i => X.1 (2 + 2 * i) 2) i) (fun (s : Int64 × Int64) => s.1 = swv fl v (fun i => X.1 (2 + 2 * i) 2) n ∧ s.2 = sww fl (fun i => X.1 (2 + 2 * i) 2) n) (fun f s hs => ⟨s, by
    show f_X11_weighted_L7 M (f + 1) s.1 s.2 (nI n) = _
    rw [f_X11_weighted_L7, if_pos (by rw [show gI M 1 64 = nI n from h.2.1]; exact nI_le (Nat.le_refl _) (by omega))], hs⟩) (fun f i s hi hs => by
    obtain ⟨a, b⟩ := s
    obtain ⟨h1, h2⟩ := hs
    have i4 : i < 4 := by omega
    show (∃ q, f_X11_weighted_L7 M (f + 1) a b (nI i) = some q ∧ _) ∨ (∃ s' : Int64 × Int64, _ ∧ f_X11_weighted_L7 M (f + 1) a b (nI i) = f_X11_weighted_L7 M f s'.1 s'.2 (nI (i + 1)))
    rw [f_X11_weighted_L7, if_neg (by rw [show gI M 1 64 = nI n from h.2.1]; exact nI_ge hi (by omega)), ix_n (by omega), show gI M 13 i = if fl i = true then 1 else 0 from hF i hi, yof2 i4, h.w hi]
    simp only [chk_p (inb_n (c := i) (N := 4) i4 (by decide)), lt1_s, ob1_s]
    by_cases c : fl i = true
    · rw [if_pos c, if_neg one_0, ob1_s, if_neg one_0, ob1_s, nI_1, show gJ M 12 i = v i from hv i hi c, Int64.mul_comm]
      refine Or.inr ⟨(a + Int32.toInt64 (X.1 (2 + 2 * i) 2) * v i, b + Int32.toInt64 (X.1 (2 + 2 * i) 2)), ⟨?_, ?_⟩, rfl⟩
      · show a + _ = if fl i = true then _ else _
        rw [if_pos c, ← h1]
      · show b + _ = if fl i = true then _ else _
        rw [if_pos c, ← h2]
    · rw [if_neg c, if_pos rfl, ob1_s, if_pos rfl, ob1_s, nI_1, Int64.add_zero, Int64.add_zero]
      refine Or.inr ⟨(a, b), ⟨?_, ?_⟩, rfl⟩
      · show a = if fl i = true then _ else _
        rw [if_neg c]; exact h1
      · show b = if fl i = true then _ else _
        rw [if_neg c]; exact h2) (by omega) (s := ((0 : Int64), (0 : Int64))) ⟨rfl, rfl⟩
  obtain ⟨p, q⟩ := b
  obtain rfl : p = _ := h1
  obtain rfl : q = _ := h2
  unfold f_X11_weighted
  rw [show f_X11_weighted_L7 M 1000 (0 : Int64) (0 : Int64) (0 : Int32) = _ from hb, ob2_s, chk_p (show decide _ = true from decide_eq_true hnz)]
/-! substitutes -/
def sub64 (X : Mm) (m : Int32) (i : Nat) : Int64 := Int32.toInt64 m * Int32.toInt64 (X.1 (2 + 2 * i) 9) / (1000 : Int64)
def subF (X : Mm) (fl : Nat → Bool) (i : Nat) : Bool := !fl i && decide (¬ X.1 (2 + 2 * i) 8 = 0)
theorem x_sub {X M : Mm} {m : Int32} {fl : Nat → Bool} (hA : ∀ k, k < 28 → M.1 k = X.1 k) (h6 : M.1 232 6 = bitset fl 4) (h8 : M.1 232 8 = 0) : ∃ N, f_X2_substituteFrom m M = some N ∧ (∀ i, i < 4 → N.1 237 i = if subF X fl i = true then Int64.toInt32 (sub64 X m i) else M.1 237 i) ∧ N.1 232 8 = bitset (subF X fl) 4 ∧ (∀ j, j ≠ 8 → N.1 232 j = M.1 232 j) ∧ (∀ k, k ≠ 232 → k ≠ 237 → N.1 k = M.1 k) ∧ N.2 = M.2 := by
  refine (fun z => z) (lpUp (L := fun f x s => f_X2_substituteFrom_L2 m f x s) 4 (fun i N => (∀ j, j < 4 → N.1 237 j = if j < i ∧ subF X fl j = true then Int64.toInt32 (sub64 X m j) else M.1 237 j) ∧ N.1 232 8 = bitset (subF X fl) i ∧ (∀ j, j ≠ 8 → N.1 232 j = M.1 232 j) ∧ (∀ k, k ≠ 232 → k ≠ 237 → N.1 k = M.1 k) ∧ N.2 = M.2) (fun N => (∀ i, i < 4 → N.1 237 i = if subF X fl i = true then Int64.toInt32 (sub64 X m i) else M.1 237 i) ∧ N.1 232 8 = bitset (subF X fl) 4 ∧ (∀ j, j ≠ 8 → N.1 232 j = M.1 232 j) ∧ (∀ k, k ≠ 232 → k ≠ 237 → N.1 k = M.1 k) ∧ N.2 = M.2) (fun f N h => ⟨N, by rw [f_X2_substituteFrom_L2, if_pos (show (4 : Int32) ≤ nI 4 by decide)], fun j hj => ?_, h.2⟩) (fun f i N hi h => ?_) (by decide) ⟨fun j _ => by rw [if_neg (by omega)], h8, fun _ _ => rfl, fun _ _ _ => rfl, rfl⟩)
  · rw [h.1 j hj]
    by_cases c : subF X fl j = true
    · rw [if_pos ⟨hj, c⟩, if_pos c]
    · rw [if_neg (fun q => c q.2), if_neg c]
  obtain ⟨q1, q2, q3, q4, q5⟩ := h
  have eL : gI N (2 + 2 * i) = X.1 (2 + 2 * i) := (q4 _ (by omega) (by omega)).trans (hA _ (by omega))
  have e6 : gI N 232 6 = bitset fl 4 := (q3 6 (by decide)).trans h6
  rw [f_X2_substituteFrom_L2, if_neg (show ¬ (4 : Int32) ≤ nI i from nI_ge hi (by decide)), e6, con hi, ob1_s, ix_n (by omega)]
  simp only [chk_p (inb_n (c := i) (N := 4) hi (by decide)), lt1_s, rid50', eL]
  have stay : subF X fl i = false → ∃ s', ((∀ j, j < 4 → s'.1 237 j = if j < i + 1 ∧ subF X fl j = true then Int64.toInt32 (sub64 X m j) else M.1 237 j) ∧ s'.1 232 8 = bitset (subF X fl) (i + 1) ∧ (∀ j, j ≠ 8 → s'.1 232 j = M.1 232 j) ∧ (∀ k, k ≠ 232 → k ≠ 237 → s'.1 k = M.1 k) ∧ s'.2 = M.2) ∧ f_X2_substituteFrom_L2 m f (nI i + 1) N = f_X2_substituteFrom_L2 m f (nI (i + 1)) s' := fun hno => by
    refine ⟨N, ⟨fun j hj => ?_, ?_, q3, q4, q5⟩, by rw [nI_1]⟩
    · rw [q1 j hj]
      by_cases c : j < i ∧ subF X fl j = true
      · rw [if_pos c, if_pos ⟨by omega, c.2⟩]
      · rw [if_neg c, if_neg (fun q => ?_)]
        rcases Nat.eq_or_lt_of_le (show j ≤ i by omega) with e | e
        · subst e; rw [hno] at q; exact absurd q.2 (by decide)
        · exact c ⟨e, q.2⟩
    · show _ = fb1 (subF X fl i) i (bitset (subF X fl) i)
      rw [hno, q2]
      rfl
  by_cases c : fl i = true
  · rw [if_pos c, if_neg one_0, ob1_s]
    exact Or.inr (stay (by unfold subF; rw [c]; rfl))
  rw [if_neg c, if_pos rfl]
  by_cases d : X.1 (2 + 2 * i) 8 = 0
  · rw [if_pos d, ob1_s]
    exact Or.inr (stay (by unfold subF; rw [d]; simp))
  have sF : subF X fl i = true := by
    unfold subF
    simp only [Bool.and_eq_true, Bool.not_eq_true', decide_eq_true_eq]
    exact ⟨by simpa using c, d⟩
  have e8 : ∀ u : Int32, gI (wI N 237 i u) 232 8 = bitset (subF X fl) i := fun u => (congrFun (wI_o (by decide)) 8).trans q2
  rw [if_neg d, e8, ob1_s, nI_1]
  refine Or.inr ⟨wI (wI N 237 i (Int64.toInt32 (sub64 X m i))) 232 8 (bitset (subF X fl) i ||| ((1 : Int32) <<< (nI i &&& 31))), ⟨fun j hj => ?_, ?_, fun j hj => ?_, fun k k1 k2 => ?_, q5⟩, rfl⟩
  · rw [wI_o (by decide)]
    by_cases e : j = i
    · subst e; rw [wI_e, if_pos ⟨by omega, sF⟩]
    · rw [wI_k e, q1 j hj]
      by_cases c2 : j < i ∧ subF X fl j = true
      · rw [if_pos c2, if_pos ⟨by omega, c2.2⟩]
      · rw [if_neg c2, if_neg (fun q => c2 ⟨by omega, q.2⟩)]
  · rw [wI_e]
    show _ = fb1 (subF X fl i) i (bitset (subF X fl) i)
    rw [sF]
    rfl
  · rw [wI_k hj, wI_o (by decide), q3 j hj]
  · rw [wI_o k1, wI_o k2, q4 k k1 k2]
theorem y_sub {X M : Mm} {n : Nat} {m : Int32} {fl : Nat → Bool} (h : Lk X M n) (hn : n ≤ 4) (hF : ∀ i, i < n → M.1 13 i = if fl i = true then 1 else 0) (h18 : M.1 0 18 = 0) :
    ∃ N, f_X11_worksOut_L248 (Int32.toInt64 m) 1000 (0 : Int32) M = some N ∧ (∀ i, i < n → N.1 13 i = if (fl i || subF X fl i) = true then 1 else 0) ∧ (∀ i, i < n → N.2 12 i = if subF X fl i = true then sub64 X m i else M.2 12 i) ∧ N.1 0 18 = bitset (subF X fl) n ∧ (∀ j, j ≠ 18 → N.1 0 j = M.1 0 j) ∧ (∀ k, k ≠ 0 → k ≠ 13 → N.1 k = M.1 k) ∧ (∀ k, k ≠ 12 → N.2 k = M.2 k) := by
  refine (fun z => z) (lpUp (L := fun f x s => f_X11_worksOut_L248 (Int32.toInt64 m) f x s) n (fun i N => (∀ j, j < n → N.1 13 j = if j < i then (if (fl j || subF X fl j) = true then 1 else 0) else (if fl j = true then 1 else 0)) ∧ (∀ j, j < n → N.2 12 j = if j < i ∧ subF X fl j = true then sub64 X m j else M.2 12 j) ∧ N.1 0 18 = bitset (subF X fl) i ∧ (∀ j, j ≠ 18 → N.1 0 j = M.1 0 j) ∧ (∀ k, k ≠ 0 → k ≠ 13 → N.1 k = M.1 k) ∧ (∀ k, k ≠ 12 → N.2 k = M.2 k)) (fun N => (∀ i, i < n → N.1 13 i = if (fl i || subF X fl i) = true then 1 else 0) ∧ (∀ i, i < n → N.2 12 i = if subF X fl i = true then sub64 X m i else M.2 12 i) ∧ N.1 0 18 = bitset (subF X fl) n ∧ (∀ j, j ≠ 18 → N.1 0 j = M.1 0 j) ∧ (∀ k, k ≠ 0 → k ≠ 13 → N.1 k = M.1 k) ∧ (∀ k, k ≠ 12 → N.2 k = M.2 k)) (fun f N hN => ⟨N, by rw [f_X11_worksOut_L248, if_pos (by rw [show gI N 1 64 = nI n from (congrFun (hN.2.2.2.2.1 1 (by decide) (by decide)) 64).trans h.2.1]; exact nI_le (Nat.le_refl _) (by omega))], fun j hj => by rw [hN.1 j hj, if_pos hj], fun j hj => ?_, hN.2.2⟩) (fun f i N hi hN => ?_) (by omega) ⟨fun j hj => by rw [if_neg (by omega)]; exact hF j hj, fun j _ => by rw [if_neg (by omega)], h18, fun _ _ => rfl, fun _ _ _ => rfl, fun _ _ => rfl⟩)
  · rw [hN.2.1 j hj]
    by_cases c : subF X fl j = true
    · rw [if_pos ⟨hj, c⟩, if_pos c]
    · rw [if_neg (fun q => c q.2), if_neg c]
  obtain ⟨q1, q2, q3, q4, q5, q6⟩ := hN
  have i4 : i < 4 := by omega
  have hLN := h.same (Y' := N) (q5 1 (by decide) (by decide))
  have e13 : gI N 13 i = if fl i = true then 1 else 0 := by
    show N.1 13 i = _
    rw [q1 i hi, if_neg (by omega)]
  rw [f_X11_worksOut_L248, if_neg (by rw [show gI N 1 64 = nI n from hLN.2.1]; exact nI_ge hi (by omega)), ix_n (by omega), e13, yof7 i4]
  simp only [chk_p (inb_n (c := i) (N := 4) i4 (by decide)), lt1_s, ob1_s]
  have stay : subF X fl i = false → ∃ s', ((∀ j, j < n → s'.1 13 j = if j < i + 1 then (if (fl j || subF X fl j) = true then 1 else 0) else (if fl j = true then 1 else 0)) ∧ (∀ j, j < n → s'.2 12 j = if j < i + 1 ∧ subF X fl j = true then sub64 X m j else M.2 12 j) ∧ s'.1 0 18 = bitset (subF X fl) (i + 1) ∧ (∀ j, j ≠ 18 → s'.1 0 j = M.1 0 j) ∧ (∀ k, k ≠ 0 → k ≠ 13 → s'.1 k = M.1 k) ∧ (∀ k, k ≠ 12 → s'.2 k = M.2 k)) ∧ f_X11_worksOut_L248 (Int32.toInt64 m) f (nI i + 1) N = f_X11_worksOut_L248 (Int32.toInt64 m) f (nI (i + 1)) s' := fun hno => by
    refine ⟨N, ⟨fun j hj => ?_, fun j hj => ?_, ?_, q4, q5, q6⟩, by rw [nI_1]⟩
    · rw [q1 j hj]
      by_cases e : j = i
      · subst e
        rw [if_neg (show ¬ j < j by omega), if_pos (show j < j + 1 by omega), hno, Bool.or_false]
      · by_cases c : j < i
        · rw [if_pos c, if_pos (show j < i + 1 by omega)]
        · rw [if_neg c, if_neg (show ¬ j < i + 1 by omega)]
    · rw [q2 j hj]
      by_cases c : j < i ∧ subF X fl j = true
      · rw [if_pos c, if_pos ⟨by omega, c.2⟩]
      · rw [if_neg c, if_neg (fun q => ?_)]
        rcases Nat.eq_or_lt_of_le (show j ≤ i by omega) with e | e
        · subst e; rw [hno] at q; exact absurd q.2 (by decide)
        · exact c ⟨e, q.2⟩
    · show _ = fb1 (subF X fl i) i (bitset (subF X fl) i)
      rw [hno, q3]
      rfl
  by_cases c : fl i = true
  · rw [if_pos c, if_neg one_0, ob1_s]
    exact Or.inr (stay (by unfold subF; rw [c]; rfl))
  rw [if_neg c, if_pos rfl]
  rcases (hLN.1 i hi).rat with ⟨d, d2⟩ | ⟨d, d2, d3, -⟩
  · rw [if_pos d2, ob1_s]
    exact Or.inr (stay (by unfold subF; rw [d]; simp))
  have sF : subF X fl i = true := by
    unfold subF
    simp only [Bool.and_eq_true, Bool.not_eq_true', decide_eq_true_eq]
    exact ⟨by simpa using c, d⟩
  have d3' : N.1 1 (16 * i + 7) = X.1 (2 + 2 * i) 9 := d3
  have e18 : ∀ u, gI (wI (wJ N 12 i u) 13 i 1) 0 18 = bitset (subF X fl) i := fun u => (congrFun (wI_o (by decide)) 18).trans q3
  rw [if_neg d2, e18, ob1_s, nI_1, d3']
  refine Or.inr ⟨wI (wI (wJ N 12 i (sub64 X m i)) 13 i 1) 0 18 (bitset (subF X fl) i ||| ((1 : Int32) <<< (nI i &&& 31))), ⟨fun j hj => ?_, fun j hj => ?_, ?_, fun j hj => ?_, fun k k1 k2 => ?_, fun k hk => ?_⟩, rfl⟩
  · rw [wI_o (by decide)]
    by_cases e : j = i
    · subst e; rw [wI_e, if_pos (show j < j + 1 by omega), sF, Bool.or_true, if_pos rfl]
    · rw [wI_k e, wJ_1, q1 j hj]
      by_cases c2 : j < i
      · rw [if_pos c2, if_pos (show j < i + 1 by omega)]
      · rw [if_neg c2, if_neg (show ¬ j < i + 1 by omega)]
  · show (if 12 = 12 ∧ j = i then sub64 X m i else N.2 12 j) = _
    by_cases e : j = i
    · subst e; rw [if_pos ⟨rfl, rfl⟩, if_pos ⟨by omega, sF⟩]
    · rw [if_neg (fun q => e q.2), q2 j hj]
      by_cases c2 : j < i ∧ subF X fl j = true
      · rw [if_pos c2, if_pos ⟨by omega, c2.2⟩]
      · rw [if_neg c2, if_neg (fun q => c2 ⟨by omega, q.2⟩)]
  · rw [wI_e]
    show _ = fb1 (subF X fl i) i (bitset (subF X fl) i)
    rw [sF]
    rfl
  · rw [wI_k hj, wI_o (by decide), wJ_1, q4 j hj]
  · rw [wI_o k1, wI_o k2, wJ_1, q5 k k1 k2]
  · show (wJ N 12 i _).2 k = _
    rw [wJ_o hk, q6 k hk]

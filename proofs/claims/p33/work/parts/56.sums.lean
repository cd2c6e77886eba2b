/-! TWO LOOPS IN STEP, sums, and the numbers of a path -/
theorem lpB {S T β γ : Type} (L : Nat → S → Option β) (L2 : Nat → T → Option γ) (Inv : Nat → S → T → Prop) (Po : β → γ → Prop)
    (h : ∀ f k s t, Inv k s t → (∃ b c, L (f + 1) s = some b ∧ L2 (f + 1) t = some c ∧ Po b c) ∨ (∃ k' s' t', k = k' + 1 ∧ Inv k' s' t' ∧ L (f + 1) s = L f s' ∧ L2 (f + 1) t = L2 f t')) :
    ∀ k s t f, Inv k s t → k < f → ∃ b c, L f s = some b ∧ L2 f t = some c ∧ Po b c := by
  intro k
  induction k with
  | zero =>
    intro s t f hI hf
    obtain ⟨g, rfl⟩ : ∃ g, f = g + 1 := ⟨f - 1, by omega⟩
    rcases h g 0 s t hI with q | ⟨k', s', t', e, _⟩
    · exact q
    · omega
  | succ k ih =>
    intro s t f hI hf
    obtain ⟨g, rfl⟩ : ∃ g, f = g + 1 := ⟨f - 1, by omega⟩
    rcases h g (k + 1) s t hI with q | ⟨k', s', t', e, hI2, e2, e3⟩
    · exact q
    · obtain rfl : k = k' := by omega
      rw [e2, e3]
      exact ih s' t' g hI2 (by omega)
def sm (g : Nat → Int32) : Nat → Int32
  | 0 => 0
  | i + 1 => sm g i + g i
theorem sm_tail {g : Nat → Int32} {n : Nat} : ∀ m, (∀ i, n ≤ i → i < n + m → g i = 0) → sm g (n + m) = sm g n := by
  intro m
  induction m with
  | zero => intro _; rfl
  | succ m ih =>
    intro h
    show sm g (n + m) + g (n + m) = _
    rw [ih (fun i h1 h2 => h i h1 (by omega)), h (n + m) (by omega) (by omega), Int32.add_zero]
theorem sm_to {g : Nat → Int32} {n m : Nat} (hn : n ≤ m) (h : ∀ i, n ≤ i → i < m → g i = 0) : sm g m = sm g n := by
  obtain ⟨d, rfl⟩ : ∃ d, m = n + d := ⟨m - n, by omega⟩
  exact sm_tail d h
theorem sm_congr {g g' : Nat → Int32} : ∀ {n : Nat}, (∀ i, i < n → g i = g' i) → sm g n = sm g' n := by
  intro n
  induction n with
  | zero => intro _; rfl
  | succ n ih =>
    intro h
    show sm g n + g n = sm g' n + g' n
    rw [ih (fun i hi => h i (by omega)), h n (by omega)]
/-- a sum that a loop makes -/
theorem lpSum {L : Nat → Int32 → Int32 → Option Int32} (g : Nat → Int32) (N : Nat) (hN : N < 1000) (he : ∀ f v, L (f + 1) v (nI N) = some v) (hs : ∀ f i v, i < N → L (f + 1) v (nI i) = L f (v + g i) (nI (i + 1))) : L 1000 (0 : Int32) (0 : Int32) = some (sm g N) := by
  obtain ⟨b, hb, rfl⟩ := lpUp (L := fun f x v => L f v x) N (fun i v => v = sm g i) (fun b => b = sm g N) (fun f s h => ⟨s, he f s, h⟩) (fun f i s hi h => Or.inr ⟨s + g i, by rw [h]; rfl, hs f i s hi⟩) hN (s := (0 : Int32)) rfl
  exact hb
theorem s_told4 {X Y : Mm} {n : Nat} (hA : PA n X.1 (Y.1 1)) : ∃ r, f_X8_toldShots X = some r ∧ f_X11_shots Y = some r := by
  obtain ⟨hn, hx, hy, hp, hq⟩ := hA
  let g : Nat → Int32 := fun i => if X.1 (3 + 2 * i) 0 = 0 then 0 else 1
  refine ⟨sm g 4, ?_, ?_⟩
  · unfold f_X8_toldShots
    rw [lpSum (L := fun f v x => f_X8_toldShots_L13 X f v x) g 4 (by decide) (fun f v => by rw [f_X8_toldShots_L13, if_pos (show (4 : Int32) ≤ nI 4 by decide)]) (fun f i v hi => by
      rw [f_X8_toldShots_L13, if_neg (show ¬ (4 : Int32) ≤ nI i from nI_ge hi (by decide)), chk_p (inb_n hi (by decide)), show rid 50 1 (ix (nI i)) + 1 = 3 + 2 * i by rw [show rid 50 1 (ix (nI i)) = 0 + (2 + 2 * i) from rid50 (a := 0) hi]; omega]
      unfold f_X10_asNumber
      rw [ob1_if, lt1_s, lt1_s, nI_succ]
      rfl)]
    rfl
  · unfold f_X11_shots
    rw [lpSum (L := fun f v x => f_X11_shots_L4 Y f v x) g n (by omega) (fun f v => by rw [f_X11_shots_L4, if_pos (by rw [show gI Y 1 64 = nI n from hy]; exact nI_le (Nat.le_refl _) (by omega))]) (fun f i v hi => by
      rw [f_X11_shots_L4, if_neg (by rw [show gI Y 1 64 = nI n from hy]; exact nI_ge hi (by omega)), yof13 (by omega), ob1_s, ob1_if, lt1_s, lt1_s, nI_succ]
      have e : (if Y.1 1 (16 * i + 13) = -2000000005 then (0 : Int32) else 1) = g i := by
        show _ = if X.1 (3 + 2 * i) 0 = 0 then (0 : Int32) else 1
        rcases (hp i hi).sho with ⟨q, q2⟩ | ⟨q, -, q2, -⟩
        · rw [if_pos q, if_pos q2]
        · rw [if_neg q, if_neg q2]
      rw [e])]
    rw [sm_to hn (fun i h1 h2 => if_pos (hq i h1 h2).2.2.2.2.2.2.2)]
    rfl
theorem s_fail4 {X Y : Mm} {n : Nat} (hA : PA n X.1 (Y.1 1)) : ∃ r, f_X8_failingPaths X = some r ∧ f_X11_failing Y = some r := by
  obtain ⟨hn, hx, hy, hp, hq⟩ := hA
  let g : Nat → Int32 := fun i => if X.1 (2 + 2 * i) 12 < 3 then 0 else 1
  refine ⟨sm g 4, ?_, ?_⟩
  · unfold f_X8_failingPaths
    rw [lpSum (L := fun f v x => f_X8_failingPaths_L13 X f v x) g 4 (by decide) (fun f v => by rw [f_X8_failingPaths_L13, if_pos (show (4 : Int32) ≤ nI 4 by decide)]) (fun f i v hi => by
      rw [f_X8_failingPaths_L13, if_neg (show ¬ (4 : Int32) ≤ nI i from nI_ge hi (by decide)), chk_p (inb_n hi (by decide)), show rid 50 1 (ix (nI i)) = 2 + 2 * i from (rid50 (a := 0) hi).trans (Nat.zero_add _)]
      unfold f_X3_fails f_X10_asNumber
      have e : g i = if X.1 (2 + 2 * i) 12 < 3 then 0 else 1 := rfl
      by_cases c : X.1 (2 + 2 * i) 12 < 3
      · rw [e, if_pos c, if_pos (show gI X (2 + 2 * i) 12 < 3 from c), nI_succ]
        rfl
      · rw [e, if_neg c, if_neg (show ¬ gI X (2 + 2 * i) 12 < 3 from c), nI_succ]
        rfl)]
    rfl
  · unfold f_X11_failing
    rw [lpSum (L := fun f v x => f_X11_failing_L4 Y f v x) g n (by omega) (fun f v => by rw [f_X11_failing_L4, if_pos (by rw [show gI Y 1 64 = nI n from hy]; exact nI_le (Nat.le_refl _) (by omega))]) (fun f i v hi => by
      rw [f_X11_failing_L4, if_neg (by rw [show gI Y 1 64 = nI n from hy]; exact nI_ge hi (by omega))]
      unfold f_X11_fails
      have e2 : Y.1 1 (16 * i + 10) = X.1 (2 + 2 * i) 12 := (hp i hi).2.2.2.2.1.2.2.1
      rw [yof10 (by omega), ob1_s, e2]
      have e : g i = if X.1 (2 + 2 * i) 12 < 3 then 0 else 1 := rfl
      by_cases c : X.1 (2 + 2 * i) 12 < 3
      · rw [e, if_pos c, if_pos c, nI_succ]
        rfl
      · rw [e, if_neg c, if_neg c, nI_succ]
        rfl)]
    rw [sm_to hn (fun i h1 h2 => ?_)]
    · rfl
    · show (if X.1 (2 + 2 * i) 12 < 3 then (0 : Int32) else 1) = 0
      rw [(hq i h1 h2).2.2.2.2.1]
      rfl
/-! times that are late enough make quotients that can be formed -/
theorem net_rng {t d : Int32} (h0 : 0 ≤ d) (h1 : d ≤ 5000) (h : tmOK d t) : (t - d).toInt = t.toInt - d.toInt ∧ 1000 ≤ t.toInt - d.toInt ∧ t.toInt - d.toInt ≤ 10100000 := by
  obtain ⟨a, b⟩ := h
  have e0 : (0 : Int32).toInt = 0 := rfl
  have e1 : (5000 : Int32).toInt = 5000 := rfl
  have e2 : (1000 : Int32).toInt = 1000 := rfl
  have e3 : (10100000 : Int32).toInt = 10100000 := rfl
  rw [i_le] at h0 h1 b
  rw [i_le, fb_addI (by omega) (by omega)] at a
  have hr := fb_rng t
  refine ⟨fb_subI (by omega) (by omega), by omega, by omega⟩
theorem shOK.tm {d t : Int32} (h : shOK d t) : tmOK d t := ⟨h.1, by
  have := h.2
  rw [i_le] at this ⊢
  have e1 : (9999999 : Int32).toInt = 9999999 := rfl
  have e2 : (10100000 : Int32).toInt = 10100000 := rfl
  omega⟩
theorem prod_rng {F B : Int} (h1 : 1000 ≤ F) (h2 : F ≤ 10100000) (h3 : 1000 ≤ B) (h4 : B ≤ 10100000) : 1000000 ≤ F * B ∧ F * B ≤ 102010000000000 := by
  constructor
  · exact Int.le_trans (by decide : (1000000 : Int) ≤ 1000 * 1000) (Int.mul_le_mul h1 h3 (by decide) (by omega))
  · exact Int.le_trans (Int.mul_le_mul h2 h4 (by omega) (by decide)) (by decide)
theorem net_ne {t u d : Int32} (h0 : 0 ≤ d) (h1 : d ≤ 5000) (h : tmOK d t) (k : tmOK d u) : ¬ (Int32.toInt64 (t - d) * Int32.toInt64 (u - d)) / (1000 : Int64) = 0 := by
  obtain ⟨a1, a2, a3⟩ := net_rng h0 h1 h
  obtain ⟨b1, b2, b3⟩ := net_rng h0 h1 k
  obtain ⟨p1, p2⟩ := prod_rng a2 a3 b2 b3
  intro q
  rw [j_eq, Int64.toInt_div_of_ne_right _ _ (by decide), fb_mulL, Int32.toInt_toInt64, Int32.toInt_toInt64, a1, b1, show (1000 : Int64).toInt = 1000 from rfl, show (0 : Int64).toInt = 0 from rfl, Int.tdiv_eq_ediv_of_nonneg (by omega)] at q
  · omega
  · rw [Int32.toInt_toInt64, Int32.toInt_toInt64, a1, b1]; omega
  · rw [Int32.toInt_toInt64, Int32.toInt_toInt64, a1, b1]; omega
theorem pos_ne {x : Int32} {a : Int32} (h : a ≤ x) (ha : 0 < a.toInt) : ¬ Int32.toInt64 x = 0 := by
  intro q
  rw [j_eq, Int32.toInt_toInt64, show (0 : Int64).toInt = 0 from rfl] at q
  rw [i_le] at h
  omega
theorem quot {x y : Int64} {M : Mm} (h : ¬ y = 0) : f_X10_quotient x y M = some (x / y) := by
  unfold f_X10_quotient
  rw [if_neg h, chk_p (by simpa using h)]
theorem lim_held {x : Int64} {X Y : Mm} : ∃ v : Int64, f_X11_held x 100000 Y = some v ∧ f_X10_limited x 100000 X = some v.toInt32 ∧ -100000 ≤ v.toInt32 ∧ v.toInt32 ≤ 100000 ∧ v = v.toInt32.toInt64 := by
  unfold f_X11_held f_X10_limited
  rw [show Int32.toInt64 (100000 : Int32) = (100000 : Int64) from rfl, show Int32.toInt64 (-(100000 : Int32)) = (-100000 : Int64) from rfl]
  by_cases h : x ≤ 100000
  · rw [if_pos h, if_pos h]
    by_cases h2 : (-100000 : Int64) ≤ x
    · rw [if_pos (show -(100000 : Int64) ≤ x from h2), if_pos h2]
      rw [j_le] at h h2
      have e1 : (100000 : Int64).toInt = 100000 := rfl
      have e2 : (-100000 : Int64).toInt = -100000 := rfl
      have e3 : x.toInt32.toInt = x.toInt := by rw [Int64.toInt_toInt32, fb_bmod (by omega) (by omega)]
      refine ⟨x, rfl, rfl, ?_, ?_, ?_⟩
      · rw [i_le, e3]; have : (-100000 : Int32).toInt = -100000 := rfl; omega
      · rw [i_le, e3]; have : (100000 : Int32).toInt = 100000 := rfl; omega
      · rw [j_eq, Int32.toInt_toInt64, e3]
    · rw [if_neg (show ¬ -(100000 : Int64) ≤ x from h2), if_neg h2]
      exact ⟨-100000, rfl, rfl, by decide, by decide, rfl⟩
  · rw [if_neg h, if_neg h]
    exact ⟨100000, rfl, rfl, by decide, by decide, rfl⟩
theorem s_vel {X Y : Mm} {i : Nat} (hi : i < 4) (hL : PL (X.1 (2 + 2 * i)) (X.1 (3 + 2 * i)) (fun k => Y.1 1 (16 * i + k))) {t u : Int32} (ht : tmOK (X.1 (2 + 2 * i) 4) t) (hu : tmOK (X.1 (2 + 2 * i) 4) u) :
    ∃ v, f_X3_velocityFrom (2 + 2 * i) t u X = some v ∧ f_X11_velocityOf (nI i) t u Y = some v ∧ -100000 ≤ v ∧ v ≤ 100000 := by
  obtain ⟨⟨⟨l1, l2, l3, l4⟩, -, -, d0, d1⟩, ⟨b0, b1, b2, b3, b4⟩, -⟩ := hL
  have b0' : Y.1 1 (16 * i + 0) = X.1 (2 + 2 * i) 0 := b0
  have b1' : Y.1 1 (16 * i + 1) = X.1 (2 + 2 * i) 1 := b1
  have b4' : Y.1 1 (16 * i + 4) = X.1 (2 + 2 * i) 4 := b4
  have n1 := net_ne d0 d1 ht hu
  have n2 : ¬ Int32.toInt64 (X.1 (2 + 2 * i) 1) = 0 := pos_ne l3 (by decide)
  unfold f_X3_velocityFrom f_X11_velocityOf
  rw [yof4 hi, yof0 hi, yof1 hi]
  simp only [lt1_s, ob1_s]
  rw [b0', b1', b4', chk_p (show decide (¬ Int32.toInt64 (X.1 (2 + 2 * i) 1) = 0) = true from decide_eq_true n2), chk_p (show decide _ = true from decide_eq_true n1), show gI X (2 + 2 * i) 0 = X.1 (2 + 2 * i) 0 from rfl, show gI X (2 + 2 * i) 1 = X.1 (2 + 2 * i) 1 from rfl, show gI X (2 + 2 * i) 4 = X.1 (2 + 2 * i) 4 from rfl, quot n2, ob1_s, quot n1, ob1_s]
  obtain ⟨v, e1, e2, e3, e4, -⟩ := lim_held (X := X) (Y := Y) (x := (Int32.toInt64 (X.1 (2 + 2 * i) 0) * Int32.toInt64 (X.1 (2 + 2 * i) 0) * 500000 / Int32.toInt64 (X.1 (2 + 2 * i) 1) * (Int32.toInt64 (u - X.1 (2 + 2 * i) 4) - Int32.toInt64 (t - X.1 (2 + 2 * i) 4))) / (Int32.toInt64 (t - X.1 (2 + 2 * i) 4) * Int32.toInt64 (u - X.1 (2 + 2 * i) 4) / 1000))
  rw [e1, e2]
  exact ⟨v.toInt32, rfl, rfl, e3, e4⟩

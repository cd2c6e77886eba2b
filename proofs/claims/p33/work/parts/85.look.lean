/-! P33, 2: what the looking calls answer, in the class's own numbers -/
def NP (X : Mm) (n : Nat) : Prop := n ≤ 4 ∧ X.1 0 1 = nI n
theorem at_in {X : Mm} {n i : Nat} (h : NP X n) (hi : i < n) : f_X8_pathAt (nI i) X = some (some (2 + 2 * i)) := by
  obtain ⟨hn, hx⟩ := h
  unfold f_X8_pathAt
  rw [if_neg (nI_pos (by omega)), show gI X 0 1 = nI n from hx, if_neg (nI_ge hi (by omega)), if_neg (show ¬ (4 : Int32) ≤ nI i from nI_ge (b := 4) (by omega) (by decide)), chk_p (inb_n (by omega) (by decide)), show rid 50 1 (ix (nI i)) = 2 + 2 * i from (rid50 (a := 0) (i := i) (by omega)).trans (Nat.zero_add _)]
theorem at_no {X : Mm} {n : Nat} (h : NP X n) : f_X8_pathAt (nI n) X = some none := by
  obtain ⟨hn, hx⟩ := h
  unfold f_X8_pathAt
  rw [if_neg (nI_pos (by omega)), show gI X 0 1 = nI n from hx, if_pos (nI_le (Nat.le_refl _) (by omega))]
theorem lk_p {X : Mm} {n i : Nat} (h : NP X n) (hi : i < n) (p : Int32) : f_X10_path (nI i) p X = f_X3_property (2 + 2 * i) p X := by
  have := h.1
  unfold f_X10_path
  rw [at_in h hi, ob1_s, onl_s, chk_p (ks_path (by omega))]
  cases f_X3_property (2 + 2 * i) p X <;> rfl
theorem lk_pn {X : Mm} {n : Nat} (h : NP X n) (p : Int32) : f_X10_path (nI n) p X = some (-2000000001) := by
  unfold f_X10_path
  rw [at_no h, ob1_s, onl_n]
def rfF (X : Mm) (i : Nat) : Int32 := if X.1 (2 + 2 * i) 5 = 0 then -2000000005 else X.1 (2 + 2 * i) 6
def rfB (X : Mm) (i : Nat) : Int32 := if X.1 (2 + 2 * i) 5 = 0 then -2000000005 else X.1 (2 + 2 * i) 7
def rtX (X : Mm) (i : Nat) : Int32 := if X.1 (2 + 2 * i) 8 = 0 then -2000000005 else X.1 (2 + 2 * i) 9
def flX (X : Mm) (i : Nat) : Int32 := if X.1 (2 + 2 * i) 12 < 3 then 0 else 1
section LOOKP
variable {X : Mm} {n i : Nat}
theorem lk_p2 (h : NP X n) (hi : i < n) : f_X10_path (nI i) 2 X = some (X.1 (2 + 2 * i) 2) := (lk_p h hi 2).trans rfl
theorem lk_p3 (h : NP X n) (hi : i < n) : f_X10_path (nI i) 3 X = some (X.1 (2 + 2 * i) 3) := (lk_p h hi 3).trans rfl
theorem lk_p4 (h : NP X n) (hi : i < n) : f_X10_path (nI i) 4 X = some (X.1 (2 + 2 * i) 4) := (lk_p h hi 4).trans rfl
theorem lk_p5 (h : NP X n) (hi : i < n) : f_X10_path (nI i) 5 X = some (rfF X i) := by
  rw [lk_p h hi 5]
  show (if X.1 (2 + 2 * i) 5 = 0 then some (-2000000005 : Int32) else some (X.1 (2 + 2 * i) 6)) = _
  unfold rfF
  by_cases c : X.1 (2 + 2 * i) 5 = 0
  · rw [if_pos c, if_pos c]
  · rw [if_neg c, if_neg c]
theorem lk_p6 (h : NP X n) (hi : i < n) : f_X10_path (nI i) 6 X = some (rfB X i) := by
  rw [lk_p h hi 6]
  show (if X.1 (2 + 2 * i) 5 = 0 then some (-2000000005 : Int32) else some (X.1 (2 + 2 * i) 7)) = _
  unfold rfB
  by_cases c : X.1 (2 + 2 * i) 5 = 0
  · rw [if_pos c, if_pos c]
  · rw [if_neg c, if_neg c]
theorem lk_p7 (h : NP X n) (hi : i < n) : f_X10_path (nI i) 7 X = some (rtX X i) := by
  rw [lk_p h hi 7]
  show (if X.1 (2 + 2 * i) 8 = 0 then some (-2000000005 : Int32) else some (X.1 (2 + 2 * i) 9)) = _
  unfold rtX
  by_cases c : X.1 (2 + 2 * i) 8 = 0
  · rw [if_pos c, if_pos c]
  · rw [if_neg c, if_neg c]
theorem lk_p8 (h : NP X n) (hi : i < n) : f_X10_path (nI i) 8 X = some (X.1 (2 + 2 * i) 10) := (lk_p h hi 8).trans rfl
theorem lk_p9 (h : NP X n) (hi : i < n) : f_X10_path (nI i) 9 X = some (X.1 (2 + 2 * i) 11) := (lk_p h hi 9).trans rfl
theorem lk_p10 (h : NP X n) (hi : i < n) : f_X10_path (nI i) 10 X = some (X.1 (2 + 2 * i) 12) := (lk_p h hi 10).trans rfl
theorem lk_p13 (h : NP X n) (hi : i < n) : f_X10_path (nI i) 13 X = some (flX X i) := by
  rw [lk_p h hi 13]
  show (ob1 (f_X3_fails (2 + 2 * i) X) fun r_1 => ob1 (f_X10_asNumber r_1 X) fun r_2 => some r_2) = _
  unfold f_X3_fails f_X10_asNumber flX
  by_cases c : X.1 (2 + 2 * i) 12 < 3
  · rw [if_pos (show gI X (2 + 2 * i) 12 < 3 from c), if_pos c]; rfl
  · rw [if_neg (show ¬ gI X (2 + 2 * i) 12 < 3 from c), if_neg c]; rfl
/-- the shot -/
def tdX (X : Mm) (i q : Nat) : Int32 := if X.1 (3 + 2 * i) 0 = 0 then -2000000005 else X.1 (3 + 2 * i) (1 + q)
theorem lk_t (h : NP X n) (hi : i < n) {q : Nat} (hq : q < 3) : f_X10_told (nI i) (nI q) X = some (tdX X i q) := by
  have := h.1
  unfold f_X10_told tdX
  rw [at_in h hi, ob1_s, onl_s, chk_p (ks_path (by omega)), show f_X10_isWithin (nI q) 0 2 X = some 1 by
    unfold f_X10_isWithin
    rw [if_neg (nI_pos (by omega)), if_neg (show ¬ (2 : Int32) < nI q from nI_nlt (a := 2) (by omega) (by decide))], ob1_s, if_neg one_0, show 2 + 2 * i + 1 = 3 + 2 * i by omega]
  by_cases c : X.1 (3 + 2 * i) 0 = 0
  · rw [if_pos (show gI X (3 + 2 * i) 0 = 0 from c), if_pos c]
  · rw [if_neg (show ¬ gI X (3 + 2 * i) 0 = 0 from c), if_neg c]
    have : q = 0 ∨ q = 1 ∨ q = 2 := by omega
    rcases this with rfl | rfl | rfl
    · exact if_pos rfl
    · exact (if_neg (by decide)).trans (if_pos rfl)
    · exact (if_neg (by decide)).trans (if_neg (by decide))
/-- rounds -/
def NR (X : Mm) (n : Nat) : Prop := n ≤ 12 ∧ X.1 14 1 = nI n
theorem lk_r0 (h : NR X n) (hi : i < n) (p : Int32) : f_X10_round (nI i) p X = (if p = 0 then some (X.1 (16 + i) 0) else if p = 1 then some (X.1 (16 + i) 1) else if p = 2 then some (X.1 (16 + i) 2) else if p = 3 then some (X.1 (16 + i) 3) else if p = 4 then some (X.1 (16 + i) 4) else if p = 5 then some (X.1 (16 + i) 5) else some (-2000000002)) := by
  obtain ⟨hn, hx⟩ := h
  unfold f_X10_round f_X6_latest
  have hk : decide (KS true (16 + i) = 5) = true := by
    have : ∀ i, i < 12 → decide (KS true (16 + i) = 5) = true := by decide
    exact this i (by omega)
  rw [if_neg (nI_pos (by omega)), show gI X 14 1 = nI n from hx, if_neg (nI_ge hi (by omega)), if_neg (show ¬ (12 : Int32) ≤ nI i from nI_ge (b := 12) (by omega) (by decide)), chk_p (inb_n (by omega) (by decide)), ob1_s, onl_s, show (15 : Nat) = 0 + 14 + 1 from rfl, rid51 (by omega), Nat.zero_add, chk_p hk]
  rfl
theorem lk_r {p : Nat} (h : NR X n) (hi : i < n) (hp : p < 6) : f_X10_round (nI i) (nI p) X = some (X.1 (16 + i) p) := by
  rw [lk_r0 h hi]
  have : p = 0 ∨ p = 1 ∨ p = 2 ∨ p = 3 ∨ p = 4 ∨ p = 5 := by omega
  rcases this with rfl | rfl | rfl | rfl | rfl | rfl <;> rfl
theorem lk_rn (h : NR X n) (p : Int32) : f_X10_round (nI n) p X = some (-2000000001) := by
  obtain ⟨hn, hx⟩ := h
  unfold f_X10_round f_X6_latest
  rw [if_neg (nI_pos (by omega)), show gI X 14 1 = nI n from hx, if_pos (nI_le (Nat.le_refl _) (by omega)), ob1_s, onl_n]
theorem lk_rm (p : Int32) : f_X10_round (-1) p X = some (-2000000001) := by
  unfold f_X10_round f_X6_latest
  rw [if_pos (by decide), ob1_s, onl_n]
theorem lk_told4 : f_X8_toldShots X = some (sm (fun i => if X.1 (3 + 2 * i) 0 = 0 then 0 else 1) 4) := by
  unfold f_X8_toldShots
  rw [lpSum (L := fun f v x => f_X8_toldShots_L13 X f v x) (fun i => if X.1 (3 + 2 * i) 0 = 0 then 0 else 1) 4 (by decide) (fun f v => by rw [f_X8_toldShots_L13, if_pos (show (4 : Int32) ≤ nI 4 by decide)]) (fun f i v hi => by
      rw [f_X8_toldShots_L13, if_neg (show ¬ (4 : Int32) ≤ nI i from nI_ge hi (by decide)), chk_p (inb_n hi (by decide)), show rid 50 1 (ix (nI i)) + 1 = 3 + 2 * i by rw [show rid 50 1 (ix (nI i)) = 0 + (2 + 2 * i) from rid50 (a := 0) hi]; omega]
      unfold f_X10_asNumber
      rw [ob1_if, lt1_s, lt1_s, nI_succ]
      rfl)]
  rfl
theorem lk_fail4 : f_X8_failingPaths X = some (sm (fun i => flX X i) 4) := by
  unfold f_X8_failingPaths
  rw [lpSum (L := fun f v x => f_X8_failingPaths_L13 X f v x) (fun i => flX X i) 4 (by decide) (fun f v => by rw [f_X8_failingPaths_L13, if_pos (show (4 : Int32) ≤ nI 4 by decide)]) (fun f i v hi => by
      rw [f_X8_failingPaths_L13, if_neg (show ¬ (4 : Int32) ≤ nI i from nI_ge hi (by decide)), chk_p (inb_n hi (by decide)), show rid 50 1 (ix (nI i)) = 2 + 2 * i from (rid50 (a := 0) hi).trans (Nat.zero_add _)]
      unfold f_X3_fails f_X10_asNumber flX
      by_cases c : X.1 (2 + 2 * i) 12 < 3
      · rw [if_pos c, if_pos (show gI X (2 + 2 * i) 12 < 3 from c), nI_succ]
        rfl
      · rw [if_neg c, if_neg (show ¬ gI X (2 + 2 * i) 12 < 3 from c), nI_succ]
        rfl)]
  rfl
theorem lk_0 : f_X10_total 0 X = some (X.1 0 1) := rfl
theorem lk_1 : f_X10_total 1 X = some (X.1 10 2) := rfl
theorem lk_2 : f_X10_total 2 X = some (sm (fun i => if X.1 (3 + 2 * i) 0 = 0 then 0 else 1) 4) := by
  show (ob1 (f_X8_toldShots X) fun r_1 => some r_1) = _
  rw [lk_told4, ob1_s]
theorem lk_3 : f_X10_total 3 X = some (X.1 0 6) := rfl
theorem lk_4 : f_X10_total 4 X = some (X.1 0 7) := rfl
theorem lk_5 : f_X10_total 5 X = some (X.1 14 1) := rfl
theorem lk_6 : f_X10_total 6 X = some (if X.1 0 4 = 0 then 0 else 1) := by
  show (ob1 (f_X10_asNumber (gI X 0 4) X) fun r_2 => some r_2) = _
  unfold f_X10_asNumber
  by_cases c : X.1 0 4 = 0
  · rw [if_pos (show gI X 0 4 = 0 from c), if_pos c]; rfl
  · rw [if_neg (show ¬ gI X 0 4 = 0 from c), if_neg c]; rfl
theorem lk_7 : f_X10_total 7 X = some (sm (fun i => flX X i) 4) := by
  show (ob1 (f_X8_failingPaths X) fun r_1 => some r_1) = _
  rw [lk_fail4, ob1_s]
theorem lk_8 : f_X10_total 8 X = some (X.1 225 1) := rfl
theorem lk_s {q : Nat} (hq : q < 5) : f_X10_total (nI (10 + q)) X = some (X.1 13 q) := by
  have : q = 0 ∨ q = 1 ∨ q = 2 ∨ q = 3 ∨ q = 4 := by omega
  rcases this with rfl | rfl | rfl | rfl | rfl <;> rfl
theorem lk_v0 : f_X10_volume 0 X = some (X.2 0 8) := rfl
theorem lk_v1 : f_X10_volume 1 X = some (X.2 0 9) := rfl
theorem lk_v2 : f_X10_volume 2 X = some (X.2 0 8 - X.2 0 9) := rfl
end LOOKP
theorem ff_L7 {X X' : Mm} (h0 : X'.1 10 2 = X.1 10 2) (h1 : ∀ k, k < 6 → X'.1 11 k = X.1 11 k) (x : Int32) : ∀ (n : Nat) (y : Int32), f_X4_factorFor_L7 X' x n y = f_X4_factorFor_L7 X x n y := by
  intro n
  induction n with
  | zero => intro y; rfl
  | succ n ih =>
    intro y
    rw [f_X4_factorFor_L7, f_X4_factorFor_L7, show gI X' 10 2 = gI X 10 2 from h0]
    by_cases c : inb y 6 = true
    · rw [chk_p c, chk_p c, show gI X' 11 (ix y) = gI X 11 (ix y) from h1 _ (inb_lt c), lt1_s, lt1_s, ih]
    · have z : ∀ (k : Option Int32), chk (inb y 6) k = none := fun k => if_neg c
      rw [z, z]
theorem ff_congr {X X' : Mm} {x : Int32} (h0 : X'.1 10 2 = X.1 10 2) (h1 : ∀ k, k < 6 → X'.1 11 k = X.1 11 k) (h2 : ∀ k, k < 6 → X'.1 12 k = X.1 12 k) : f_X4_factorFor x X' = f_X4_factorFor x X := by
  have ec : ∀ (y : Int32) (a : Nat) (k k' : Int32 → Option Int32), (a = 11 ∨ a = 12) → (∀ v, k' v = k v) → chk (inb y 6) (k' (gI X' a (ix y))) = chk (inb y 6) (k (gI X a (ix y))) := fun y a k k' ha hk => by
    by_cases c : inb y 6 = true
    · rw [chk_p c, chk_p c, hk]
      rcases ha with rfl | rfl
      · rw [show gI X' 11 (ix y) = gI X 11 (ix y) from h1 _ (inb_lt c)]
      · rw [show gI X' 12 (ix y) = gI X 12 (ix y) from h2 _ (inb_lt c)]
    · rw [show ∀ (k : Option Int32), chk (inb y 6) k = none from fun k => if_neg c, show ∀ (k : Option Int32), chk (inb y 6) k = none from fun k => if_neg c]
  unfold f_X4_factorFor
  rw [lt1_s, lt1_s, ff_L7 h0 h1, show gI X' 10 2 = gI X 10 2 from h0, show gI X' 12 0 = gI X 12 0 from h2 0 (by decide)]
  congr 1
  funext y
  by_cases c1 : gI X 10 2 = 0
  · rw [if_pos c1, if_pos c1]
  rw [if_neg c1, if_neg c1]
  by_cases c2 : y = 0
  · rw [if_pos c2, if_pos c2]
  rw [if_neg c2, if_neg c2]
  simp only [lt1_s]
  have tail : ∀ z : Int32, chk (inb z 6) (some (gI X' 12 (ix z))) = chk (inb z 6) (some (gI X 12 (ix z))) := fun z => ec z 12 some some (Or.inr rfl) (fun _ => rfl)
  rw [tail]
  by_cases c3 : (6 : Int32) ≤ y
  · rw [if_pos c3, if_pos c3]
  rw [if_neg c3, if_neg c3]
  by_cases c4 : y < gI X 10 2
  · rw [if_pos c4, if_pos c4]
    by_cases d1 : inb (y - 1) 6 = true
    · by_cases d2 : inb y 6 = true
      · simp only [chk_p d1, chk_p d2]
        rw [show gI X' 11 (ix (y - 1)) = gI X 11 (ix (y - 1)) from h1 _ (inb_lt d1), show gI X' 11 (ix y) = gI X 11 (ix y) from h1 _ (inb_lt d2), show gI X' 12 (ix (y - 1)) = gI X 12 (ix (y - 1)) from h2 _ (inb_lt d1), show gI X' 12 (ix y) = gI X 12 (ix y) from h2 _ (inb_lt d2)]
        rfl
      · simp only [chk_p d1, lt1_s, show ∀ (k : Option Int32), chk (inb y 6) k = none from fun k => if_neg d2]
    · rw [show ∀ (k : Option Int32), chk (inb (y - 1) 6) k = none from fun k => if_neg d1, show ∀ (k : Option Int32), chk (inb (y - 1) 6) k = none from fun k => if_neg d1]
  · rw [if_neg c4, if_neg c4]
theorem ff_abs {X : Mm} {x y : Int32} (h : jabs x = jabs y) : f_X4_factorFor x X = f_X4_factorFor y X := by
  unfold f_X4_factorFor
  rw [h]
theorem jabs_neg {x : Int32} (h1 : -1000000 ≤ x.toInt) (h2 : x.toInt ≤ 1000000) : jabs (-x) = jabs x := by
  have e0 : (0 : Int32).toInt = 0 := rfl
  have en : (-x).toInt = -x.toInt := fb_negI (by omega)
  have e : ∀ y : Int32, -1000000 ≤ y.toInt → y.toInt ≤ 1000000 → (jabs y).toInt = if 0 ≤ y.toInt then y.toInt else -y.toInt := fun y q1 q2 => by
    unfold jabs
    by_cases c : (0 : Int32) ≤ y
    · rw [if_pos c]
      rw [i_le, e0] at c
      rw [if_pos c]
    · rw [if_neg c]
      rw [i_le, e0] at c
      rw [if_neg c, fb_subI (by omega) (by omega), e0]
      omega
  rw [i_eq, e _ (by omega) (by omega), e x h1 h2, en]
  by_cases c : 0 ≤ x.toInt
  · rw [if_pos c]
    by_cases c2 : 0 ≤ -x.toInt
    · rw [if_pos c2]; omega
    · rw [if_neg c2]; omega
  · rw [if_neg c, if_pos (by omega)]

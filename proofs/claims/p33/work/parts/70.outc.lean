/-! JUDGING, 4: what becomes of the paths -/
theorem rnd_b {x p : Int32} (h1 : -10100000 ≤ x.toInt) (h2 : x.toInt ≤ 10100000) (p1 : 100 ≤ p.toInt) (p2 : p.toInt ≤ 10000) : -10120000 ≤ (rnd x p).toInt * p.toInt ∧ (rnd x p).toInt * p.toInt ≤ 10120000 ∧ -101200 ≤ (rnd x p).toInt ∧ (rnd x p).toInt ≤ 101200 := by
  have z : (0 : Int32).toInt = 0 := rfl
  have o1 : (1 : Int32).toInt = 1 := rfl
  have hs : 0 ≤ (jabs x).toInt ∧ (jabs x).toInt ≤ 10100000 := by
    unfold jabs
    by_cases c : 0 ≤ x
    · rw [if_pos c]; rw [i_le, z] at c; omega
    · rw [if_neg c]; rw [i_le, z] at c
      rw [fb_subI (by omega) (by omega), z]; omega
  have np : p ≠ -1 := fun q => by rw [q] at p1; revert p1; decide
  have hq : (jabs x / p).toInt = (jabs x).toInt / p.toInt := by rw [Int32.toInt_div_of_ne_right _ _ np, Int.tdiv_eq_ediv_of_nonneg hs.1]
  have q0 : 0 ≤ (jabs x).toInt / p.toInt := Int.ediv_nonneg hs.1 (by omega)
  have q1 : (jabs x).toInt / p.toInt * p.toInt ≤ (jabs x).toInt := Int.ediv_mul_le _ (by omega)
  have q2 : (jabs x).toInt / p.toInt * 100 ≤ (jabs x).toInt / p.toInt * p.toInt := Int.mul_le_mul_of_nonneg_left p1 q0
  have q3 : (jabs x / p + 1).toInt = (jabs x).toInt / p.toInt + 1 := by rw [fb_addI] <;> rw [hq, o1] <;> omega
  have key : ∀ v : Int32, (v.toInt = (jabs x).toInt / p.toInt ∨ v.toInt = (jabs x).toInt / p.toInt + 1) → 0 ≤ v.toInt * p.toInt ∧ v.toInt * p.toInt ≤ 10120000 ∧ 0 ≤ v.toInt ∧ v.toInt ≤ 101200 := by
    intro v hv
    rcases hv with e | e
    · rw [e]; exact ⟨Int.mul_nonneg q0 (by omega), by omega, q0, by omega⟩
    · rw [e, Int.add_mul, Int.one_mul]
      exact ⟨by have := Int.mul_nonneg q0 (show 0 ≤ p.toInt by omega); omega, by omega, by omega, by omega⟩
  have kv : ∀ c : Prop, ∀ (_ : Decidable c), ((if c then jabs x / p else jabs x / p + 1 : Int32).toInt = (jabs x).toInt / p.toInt ∨ (if c then jabs x / p else jabs x / p + 1 : Int32).toInt = (jabs x).toInt / p.toInt + 1) := by
    intro c hc
    by_cases d : c
    · rw [if_pos d]; exact Or.inl hq
    · rw [if_neg d]; exact Or.inr q3
  have k := key _ (kv ((jabs x - jabs x / p * p) * 2 ≤ p) inferInstance)
  unfold rnd
  by_cases c : 0 ≤ x
  · rw [if_pos c]; omega
  · rw [if_neg c, fb_negI (by omega), Int.neg_mul]; omega
/-- a path's time with its shift taken away -/
def tm (X : Mm) (w i : Nat) : Int32 := X.1 (3 + 2 * i) (1 + w) - shf X w i * X.1 (2 + 2 * i) 3
theorem shf_b {X Y : Mm} {n i w : Nat} (h : Lk X Y n) (hw : w < 2) (hi : i < n) : -10120000 ≤ (shf X w i).toInt * (X.1 (2 + 2 * i) 3).toInt ∧ (shf X w i).toInt * (X.1 (2 + 2 * i) 3).toInt ≤ 10120000 ∧ -101200 ≤ (shf X w i).toInt ∧ (shf X w i).toInt ≤ 101200 := by
  have hL := h.1 i hi
  have p0 := i_val _ _ _ hL.1.2.2.1
  have e1 : (100 : Int32).toInt = 100 := rfl
  have e2 : (10000 : Int32).toInt = 10000 := rfl
  rw [e1, e2] at p0
  have z : (0 : Int32).toInt * (X.1 (2 + 2 * i) 3).toInt = 0 := Int.zero_mul _
  have z0 : (0 : Int32).toInt = 0 := rfl
  unfold shf
  by_cases t : tru X w (sh0 X w i) = 0
  · rw [if_pos t]
    unfold sh0
    by_cases c : hvI X i = 0
    · rw [if_pos c, z, z0]; omega
    · rw [if_neg c]
      obtain ⟨-, c1, -, c3⟩ : hvI X i = 1 ∧ ¬ X.1 (3 + 2 * i) 0 = 0 ∧ ¬ X.1 (3 + 2 * i) 3 < X.1 13 0 ∧ ¬ X.1 (2 + 2 * i) 5 = 0 := by
        rcases hvI_or X i with q | q
        · exact absurd q c
        · exact q
      have d0 := hL.1.2.2.2.1
      have d1 := hL.1.2.2.2.2
      have hS : shOK (X.1 (2 + 2 * i) 4) (X.1 (3 + 2 * i) (1 + w)) := by
        rcases hL.sho with ⟨q, -⟩ | ⟨-, -, -, -, -, -, q1, q2⟩
        · exact absurd q c1
        · have : w = 0 ∨ w = 1 := by omega
          rcases this with rfl | rfl
          · exact q1
          · exact q2
      have hA : tmOK (X.1 (2 + 2 * i) 4) (X.1 (2 + 2 * i) (6 + w)) := by
        rcases hL.ref with ⟨q, -⟩ | ⟨-, -, -, -, q1, q2⟩
        · exact absurd q c3
        · have : w = 0 ∨ w = 1 := by omega
          rcases this with rfl | rfl
          · exact q1
          · exact q2
      have a := net_rng d0 d1 hS.tm
      have b := net_rng d0 d1 hA
      rw [i_le] at d0 d1
      have e3 : (5000 : Int32).toInt = 5000 := rfl
      have h9 := hS.2
      have h10 := hA.2
      rw [i_le] at h9 h10
      have e4 : (9999999 : Int32).toInt = 9999999 := rfl
      have e5 : (10100000 : Int32).toInt = 10100000 := rfl
      have s : (X.1 (3 + 2 * i) (1 + w) - X.1 (2 + 2 * i) (6 + w)).toInt = (X.1 (3 + 2 * i) (1 + w)).toInt - (X.1 (2 + 2 * i) (6 + w)).toInt := fb_subI (by omega) (by omega)
      exact rnd_b (by omega) (by omega) p0.1 p0.2
  · rw [if_neg t, z, z0]; omega
theorem tm_val {X Y : Mm} {n i w : Nat} (h : Lk X Y n) (hw : w < 2) (hi : i < n) (hS : shOK (X.1 (2 + 2 * i) 4) (X.1 (3 + 2 * i) (1 + w))) : (tm X w i).toInt = (X.1 (3 + 2 * i) (1 + w)).toInt - (shf X w i).toInt * (X.1 (2 + 2 * i) 3).toInt ∧ 1000 ≤ (X.1 (3 + 2 * i) (1 + w)).toInt ∧ (X.1 (3 + 2 * i) (1 + w)).toInt ≤ 9999999 := by
  have hL := h.1 i hi
  have d0 := hL.1.2.2.2.1
  have d1 := hL.1.2.2.2.2
  have a := net_rng d0 d1 hS.tm
  rw [i_le] at d0 d1
  have z0 : (0 : Int32).toInt = 0 := rfl
  have e3 : (5000 : Int32).toInt = 5000 := rfl
  have h9 := hS.2
  rw [i_le] at h9
  have e4 : (9999999 : Int32).toInt = 9999999 := rfl
  have b := shf_b h hw hi
  have m : (shf X w i * X.1 (2 + 2 * i) 3).toInt = (shf X w i).toInt * (X.1 (2 + 2 * i) 3).toInt := fb_mulI (by omega) (by omega)
  refine ⟨?_, by omega, by omega⟩
  unfold tm
  rw [fb_subI (by omega) (by omega), m]
/-- the two shots' times are fine where a shot is told -/
theorem told_ok {A S p : Nat → Int32} (h : PL A S p) (h0 : ¬ S 0 = 0) {w : Nat} (hw : w < 2) : shOK (A 4) (S (1 + w)) ∧ p (13 + w) = S (1 + w) := by
  rcases h.sho with ⟨q, -⟩ | ⟨-, -, -, q1, q2, -, q3, q4⟩
  · exact absurd q h0
  · have : w = 0 ∨ w = 1 := by omega
    rcases this with rfl | rfl
    · exact ⟨q3, q1⟩
    · exact ⟨q4, q2⟩
theorem y_timeOf {X M : Mm} {n i w : Nat} (h : Lk X M n) (hn : n ≤ 4) (hw : w < 2) (hi : i < n) (h0 : ¬ X.1 (3 + 2 * i) 0 = 0) (hS : M.1 10 (2 * i + w) = shf X w i) : f_X11_timeOf (nI i) (nI w) M = some (Int32.toInt64 (tm X w i)) := by
  have hL := h.1 i hi
  obtain ⟨k1, k2⟩ := told_ok hL h0 hw
  have e3 : M.1 1 (16 * i + 3) = X.1 (2 + 2 * i) 3 := hL.2.1.2.2.2.1
  have k2' : M.1 1 (16 * i + (13 + w)) = X.1 (3 + 2 * i) (1 + w) := k2
  have ev : (2 : Int32) * nI i + nI w = nI (2 * i + w) := (congrArg (· + nI w) (nI_mul 2 i)).trans (nI_add _ _)
  unfold f_X11_timeOf
  rw [(yofW (by omega) hw).1, ob1_s, ev, chk_p (inb_n (by omega) (by decide)), ix_n (by omega), yof3 (by omega), ob1_s, k2', e3, show gI M 10 (2 * i + w) = shf X w i from hS]
  obtain ⟨t1, t2, t3⟩ := tm_val h hw hi k1
  have b := shf_b h hw hi
  refine congrArg some ?_
  have m : (Int32.toInt64 (shf X w i) * Int32.toInt64 (X.1 (2 + 2 * i) 3)).toInt = (shf X w i).toInt * (X.1 (2 + 2 * i) 3).toInt := by rw [fb_mulL] <;> rw [Int32.toInt_toInt64, Int32.toInt_toInt64] <;> omega
  rw [j_eq, fb_subL, m, Int32.toInt_toInt64, Int32.toInt_toInt64, t1]
  · rw [m, Int32.toInt_toInt64]; omega
  · rw [m, Int32.toInt_toInt64]; omega
def skp (X : Mm) (i : Nat) : Int32 := jmax (jabs (shf X 0 i)) (jabs (shf X 1 i))
def outc (X : Mm) (sk : Int32) (i : Nat) : Int32 := if X.1 (3 + 2 * i) 0 = 0 then 0 else if X.1 13 0 ≤ X.1 (3 + 2 * i) 3 then (if sk < skp X i then 2 else if tm X 0 i - X.1 (2 + 2 * i) 4 < 1000 then 2 else if tm X 1 i - X.1 (2 + 2 * i) 4 < 1000 then 2 else if skp X i = 0 then 4 else 3) else 1
def vF (X : Mm) (i : Nat) : Int32 := (f_X3_velocityFrom (2 + 2 * i) (tm X 0 i) (tm X 1 i) X).getD 0
def acb (X : Mm) (sk : Int32) : Nat → Int32
  | 0 => 0
  | i + 1 => if outc X sk i < 3 then acb X sk i else acb X sk i ||| ((1 : Int32) <<< (nI i &&& 31))
def cob (X : Mm) (sk : Int32) : Nat → Int32
  | 0 => 0
  | i + 1 => if outc X sk i = 3 then cob X sk i ||| ((1 : Int32) <<< (nI i &&& 31)) else cob X sk i
theorem jmax_lt {s a b : Int32} : s < jmax a b ↔ s < a ∨ s < b := by
  unfold jmax
  by_cases c : a < b
  · rw [if_pos c]
    constructor
    · exact Or.inr
    · rintro (q | q)
      · rw [i_lt] at *; omega
      · exact q
  · rw [if_neg c]
    constructor
    · exact Or.inl
    · rintro (q | q)
      · exact q
      · rw [i_lt] at *; omega
theorem jabs_i {x : Int32} (h1 : -101200 ≤ x.toInt) (h2 : x.toInt ≤ 101200) : (jabs x).toInt = (if 0 ≤ x.toInt then x.toInt else -x.toInt) := by
  have z : (0 : Int32).toInt = 0 := rfl
  unfold jabs
  by_cases c : 0 ≤ x
  · rw [if_pos c]; rw [i_le, z] at c; rw [if_pos c]
  · rw [if_neg c]; rw [i_le, z] at c
    rw [fb_subI (by omega) (by omega), z, if_neg c]; omega
theorem skp_0 {X Y : Mm} {n i : Nat} (h : Lk X Y n) (hi : i < n) : skp X i = 0 ↔ shf X 0 i = 0 ∧ shf X 1 i = 0 := by
  have a := shf_b h (w := 0) (by decide) hi
  have b := shf_b h (w := 1) (by decide) hi
  have ja := jabs_i a.2.2.1 a.2.2.2
  have jb := jabs_i b.2.2.1 b.2.2.2
  have z : (0 : Int32).toInt = 0 := rfl
  unfold skp jmax
  by_cases c : jabs (shf X 0 i) < jabs (shf X 1 i)
  · rw [if_pos c]
    rw [i_lt] at c
    simp only [i_eq, z]
    constructor
    · intro q
      split at ja <;> split at jb <;> omega
    · rintro ⟨q1, q2⟩
      split at jb <;> omega
  · rw [if_neg c]
    rw [i_lt] at c
    simp only [i_eq, z]
    constructor
    · intro q
      split at ja <;> split at jb <;> omega
    · rintro ⟨q1, q2⟩
      split at ja <;> omega
/-- an accepted path's times -/
theorem acc_tm {X Y : Mm} {n i : Nat} {sk : Int32} (h : Lk X Y n) (hi : i < n) (hk : sk ≤ 5) (ho : ¬ outc X sk i < 3) : ¬ X.1 (3 + 2 * i) 0 = 0 ∧ ∀ w, w < 2 → tmOK (X.1 (2 + 2 * i) 4) (tm X w i) := by
  have hL := h.1 i hi
  unfold outc at ho
  by_cases c0 : X.1 (3 + 2 * i) 0 = 0
  · rw [if_pos c0] at ho; exact absurd (by decide) ho
  rw [if_neg c0] at ho
  by_cases c1 : X.1 13 0 ≤ X.1 (3 + 2 * i) 3
  case neg => rw [if_neg c1] at ho; exact absurd (by decide) ho
  rw [if_pos c1] at ho
  by_cases c2 : sk < skp X i
  · rw [if_pos c2] at ho; exact absurd (by decide) ho
  rw [if_neg c2] at ho
  by_cases c3 : tm X 0 i - X.1 (2 + 2 * i) 4 < 1000
  · rw [if_pos c3] at ho; exact absurd (by decide) ho
  rw [if_neg c3] at ho
  by_cases c4 : tm X 1 i - X.1 (2 + 2 * i) 4 < 1000
  · rw [if_pos c4] at ho; exact absurd (by decide) ho
  refine ⟨c0, fun w hw => ?_⟩
  have hl : ¬ tm X w i - X.1 (2 + 2 * i) 4 < 1000 := by
    have : w = 0 ∨ w = 1 := by omega
    rcases this with rfl | rfl
    · exact c3
    · exact c4
  have hs : ¬ sk < jabs (shf X w i) := fun q => by
    have : w = 0 ∨ w = 1 := by omega
    rcases this with rfl | rfl
    · exact c2 (jmax_lt.mpr (Or.inl q))
    · exact c2 (jmax_lt.mpr (Or.inr q))
  obtain ⟨t1, t2, t3⟩ := tm_val h hw hi (told_ok hL c0 hw).1
  have b := shf_b h hw hi
  have jb := jabs_i b.2.2.1 b.2.2.2
  have d0 := hL.1.2.2.2.1
  have d1 := hL.1.2.2.2.2
  have p0 := i_val _ _ _ hL.1.2.2.1
  have e1 : (100 : Int32).toInt = 100 := rfl
  have e2 : (10000 : Int32).toInt = 10000 := rfl
  have e3 : (5 : Int32).toInt = 5 := rfl
  have e4 : (5000 : Int32).toInt = 5000 := rfl
  have e5 : (0 : Int32).toInt = 0 := rfl
  have e6 : (1000 : Int32).toInt = 1000 := rfl
  have e7 : (10100000 : Int32).toInt = 10100000 := rfl
  rw [e1, e2] at p0
  rw [i_le] at hk d0 d1
  rw [i_lt] at hs
  have sb : -5 ≤ (shf X w i).toInt ∧ (shf X w i).toInt ≤ 5 := by
    split at jb <;> omega
  have m1 : -5 * (X.1 (2 + 2 * i) 3).toInt ≤ (shf X w i).toInt * (X.1 (2 + 2 * i) 3).toInt := Int.mul_le_mul_of_nonneg_right sb.1 (by omega)
  have m2 : (shf X w i).toInt * (X.1 (2 + 2 * i) 3).toInt ≤ 5 * (X.1 (2 + 2 * i) 3).toInt := Int.mul_le_mul_of_nonneg_right sb.2 (by omega)
  rw [i_lt, fb_subI (by omega) (by omega)] at hl
  constructor
  · rw [i_le, fb_addI (by omega) (by omega)]; omega
  · rw [i_le]; omega
theorem vF_s {X Y : Mm} {n i : Nat} {sk : Int32} (h : Lk X Y n) (hn : n ≤ 4) (hi : i < n) (hk : sk ≤ 5) (ho : ¬ outc X sk i < 3) : f_X3_velocityFrom (2 + 2 * i) (tm X 0 i) (tm X 1 i) X = some (vF X i) ∧ f_X11_velocityOf (nI i) (tm X 0 i) (tm X 1 i) Y = some (vF X i) ∧ -100000 ≤ vF X i ∧ vF X i ≤ 100000 := by
  obtain ⟨-, ht⟩ := acc_tm h hi hk ho
  obtain ⟨v, v1, v2, v3, v4⟩ := s_vel (X := X) (Y := Y) (by omega) (h.1 i hi) (ht 0 (by decide)) (ht 1 (by decide))
  have e : vF X i = v := by
    unfold vF
    rw [v1]
    rfl
  rw [e]
  exact ⟨v1, v2, v3, v4⟩
theorem x_velC {X M : Mm} {i : Nat} {t u : Int32} (h : M.1 (2 + 2 * i) = X.1 (2 + 2 * i)) : f_X3_velocityFrom (2 + 2 * i) t u M = f_X3_velocityFrom (2 + 2 * i) t u X := by
  have e : gI M (2 + 2 * i) = gI X (2 + 2 * i) := h
  unfold f_X3_velocityFrom
  rw [e]
  rfl
theorem x_late {M : Mm} {k : Nat} {t : Int32} : f_X3_isLateEnough k t M = if t - M.1 k 4 < 1000 then some 0 else some 1 := rfl
/-- the class decides -/
theorem x_dec {X Y M : Mm} {n : Nat} {sk : Int32} (h : Lk X Y n) (hn : n ≤ 4) (hq : ∀ i, n ≤ i → i < 4 → X.1 (3 + 2 * i) 0 = 0) (hk : sk ≤ 5) (hM : ∀ k, k < 28 → M.1 k = X.1 k) (s0 : ∀ i, i < 4 → M.1 234 i = shf X 0 i) (s1 : ∀ i, i < 4 → M.1 235 i = shf X 1 i) :
    ∃ N, f_X2_decideOutcomes sk M = some N ∧ (∀ i, i < 4 → N.1 236 i = outc X sk i ∧ N.1 237 i = if outc X sk i < 3 then -2000000005 else vF X i) ∧ N.1 232 6 = acb X sk 4 ∧ N.1 232 7 = cob X sk 4 ∧ (∀ j, j ≠ 6 → j ≠ 7 → N.1 232 j = M.1 232 j) ∧ (∀ k, k ≠ 232 → k ≠ 236 → k ≠ 237 → N.1 k = M.1 k) ∧ N.2 = M.2 := by
  unfold f_X2_decideOutcomes
  rw [lt1_s, lt1_s]
  refine (fun z => z) (lpUp (L := fun f x s => f_X2_decideOutcomes_L12 sk f x s) 4 (fun i N => (∀ j, j < i → N.1 236 j = outc X sk j ∧ N.1 237 j = if outc X sk j < 3 then -2000000005 else vF X j) ∧ N.1 232 6 = acb X sk i ∧ N.1 232 7 = cob X sk i ∧ (∀ j, j ≠ 6 → j ≠ 7 → N.1 232 j = M.1 232 j) ∧ (∀ k, k ≠ 232 → k ≠ 236 → k ≠ 237 → N.1 k = M.1 k) ∧ N.2 = M.2) (fun N => (∀ i, i < 4 → N.1 236 i = outc X sk i ∧ N.1 237 i = if outc X sk i < 3 then -2000000005 else vF X i) ∧ N.1 232 6 = acb X sk 4 ∧ N.1 232 7 = cob X sk 4 ∧ (∀ j, j ≠ 6 → j ≠ 7 → N.1 232 j = M.1 232 j) ∧ (∀ k, k ≠ 232 → k ≠ 236 → k ≠ 237 → N.1 k = M.1 k) ∧ N.2 = M.2) (fun f N h => ⟨N, by rw [f_X2_decideOutcomes_L12, if_pos (show (4 : Int32) ≤ nI 4 by decide)], h⟩) (fun f i N hi hN => ?_) (by decide) ⟨fun j hj => absurd hj (by omega), ?_, ?_, fun j h6 h7 => ?_, fun k h0 _ _ => ?_, rfl⟩)
  · obtain ⟨q1, q2, q3, q4, q5, q6⟩ := hN
    have eL : ∀ k, k < 28 → gI N k = X.1 k := fun k hk' => (q5 k (by omega) (by omega) (by omega)).trans (hM k hk')
    have e0 : gI N 234 i = shf X 0 i := (congrFun (q5 234 (by decide) (by decide) (by decide)) i).trans (s0 i hi)
    have e1 : gI N 235 i = shf X 1 i := (congrFun (q5 235 (by decide) (by decide) (by decide)) i).trans (s1 i hi)
    have e3 : 2 + 2 * i + 1 = 3 + 2 * i := by omega
    -- what the step comes to
    have fin : ∀ (N2 : Mm), N2.1 236 i = outc X sk i → (N2.1 237 i = if outc X sk i < 3 then -2000000005 else vF X i) → N2.1 232 6 = acb X sk (i + 1) → N2.1 232 7 = cob X sk (i + 1) → (∀ j, j ≠ i → N2.1 236 j = N.1 236 j ∧ N2.1 237 j = N.1 237 j) → (∀ j, j ≠ 6 → j ≠ 7 → N2.1 232 j = N.1 232 j) → (∀ k, k ≠ 232 → k ≠ 236 → k ≠ 237 → N2.1 k = N.1 k) → N2.2 = N.2 → ((∀ j, j < i + 1 → N2.1 236 j = outc X sk j ∧ N2.1 237 j = if outc X sk j < 3 then -2000000005 else vF X j) ∧ N2.1 232 6 = acb X sk (i + 1) ∧ N2.1 232 7 = cob X sk (i + 1) ∧ (∀ j, j ≠ 6 → j ≠ 7 → N2.1 232 j = M.1 232 j) ∧ (∀ k, k ≠ 232 → k ≠ 236 → k ≠ 237 → N2.1 k = M.1 k) ∧ N2.2 = M.2) := by
      intro N2 a1 a2 a3 a4 a5 a6 a7 a8
      refine ⟨fun j hj => ?_, a3, a4, fun j h6 h7 => (a6 j h6 h7).trans (q4 j h6 h7), fun k k1 k2 k3 => (a7 k k1 k2 k3).trans (q5 k k1 k2 k3), a8.trans q6⟩
      rcases Nat.eq_or_lt_of_le (show j ≤ i by omega) with e | e
      · subst e; exact ⟨a1, a2⟩
      · rw [(a5 j (by omega)).1, (a5 j (by omega)).2]; exact q1 j e
    have low : ∀ v : Int32, outc X sk i = v → v < 3 → ∃ N2, (wI (wI N 237 i (-2000000005)) 236 i v) = N2 ∧ ((∀ j, j < i + 1 → N2.1 236 j = outc X sk j ∧ N2.1 237 j = if outc X sk j < 3 then -2000000005 else vF X j) ∧ N2.1 232 6 = acb X sk (i + 1) ∧ N2.1 232 7 = cob X sk (i + 1) ∧ (∀ j, j ≠ 6 → j ≠ 7 → N2.1 232 j = M.1 232 j) ∧ (∀ k, k ≠ 232 → k ≠ 236 → k ≠ 237 → N2.1 k = M.1 k) ∧ N2.2 = M.2) := by
      intro v hv hv3
      have n3 : ¬ v = 3 := fun q => by rw [q] at hv3; revert hv3; decide
      refine ⟨_, rfl, fin _ (wI_e.trans hv.symm) ?_ ?_ ?_ (fun j hj => ⟨?_, ?_⟩) (fun j _ _ => ?_) (fun k k1 k2 k3 => ?_) rfl⟩
      · rw [wI_o (by decide), wI_e, hv, if_pos hv3]
      · rw [wI_o (by decide), wI_o (by decide), q2]
        show _ = if outc X sk i < 3 then acb X sk i else _
        rw [hv, if_pos hv3]
      · rw [wI_o (by decide), wI_o (by decide), q3]
        show _ = if outc X sk i = 3 then _ else cob X sk i
        rw [hv, if_neg n3]
      · rw [wI_k hj, wI_o (by decide)]
      · rw [wI_o (by decide), wI_k hj]
      · rw [wI_o (by decide), wI_o (by decide)]
      · rw [wI_o k2, wI_o k3]
    rw [f_X2_decideOutcomes_L12, if_neg (show ¬ (4 : Int32) ≤ nI i from nI_ge hi (by decide)), ix_n (n := i) (by omega)]
    simp only [chk_p (inb_n (c := i) (N := 4) hi (by decide)), lt1_s, rid50', e3, e0, e1, eL (3 + 2 * i) (by omega), eL (2 + 2 * i) (by omega)]
    have w1 : ∀ j, gI (wI N 237 i (-2000000005)) (3 + 2 * i) j = X.1 (3 + 2 * i) j := fun j => (congrFun (wI_o (by omega)) j).trans (congrFun (eL (3 + 2 * i) (by omega)) j)
    have w2 : gI (wI N 237 i (-2000000005)) 13 0 = X.1 13 0 := (congrFun (wI_o (by decide)) 0).trans (congrFun (eL 13 (by decide)) 0)
    have w3 : (wI N 237 i (-2000000005)).1 (2 + 2 * i) = X.1 (2 + 2 * i) := (wI_o (by omega)).trans (eL (2 + 2 * i) (by omega))
    rw [show X.1 (3 + 2 * i) 1 - shf X 0 i * X.1 (2 + 2 * i) 3 = tm X 0 i from rfl, show X.1 (3 + 2 * i) 2 - shf X 1 i * X.1 (2 + 2 * i) 3 = tm X 1 i from rfl, show jmax (jabs (shf X 0 i)) (jabs (shf X 1 i)) = skp X i from rfl, w1, w1, w2]
    by_cases c0 : X.1 (3 + 2 * i) 0 = 0
    · obtain ⟨N2, m1, m2⟩ := low 0 (if_pos c0) (by decide)
      rw [if_pos c0, ob1_s, nI_1, m1]
      exact Or.inr ⟨N2, m2, rfl⟩
    have hin : i < n := by
      rcases Nat.lt_or_ge i n with q | q
      · exact q
      · exact absurd (hq i q hi) c0
    have o1 : outc X sk i = if X.1 13 0 ≤ X.1 (3 + 2 * i) 3 then (if sk < skp X i then 2 else if tm X 0 i - X.1 (2 + 2 * i) 4 < 1000 then 2 else if tm X 1 i - X.1 (2 + 2 * i) 4 < 1000 then 2 else if skp X i = 0 then 4 else 3) else 1 := if_neg c0
    rw [if_neg c0]
    by_cases c1 : X.1 13 0 ≤ X.1 (3 + 2 * i) 3
    case neg =>
      obtain ⟨N2, m1, m2⟩ := low 1 (o1.trans (if_neg c1)) (by decide)
      rw [if_neg c1, ob1_s, nI_1, m1]
      exact Or.inr ⟨N2, m2, rfl⟩
    rw [if_pos c1] at o1
    rw [if_pos c1]
    by_cases c2 : sk < skp X i
    · obtain ⟨N2, m1, m2⟩ := low 2 (o1.trans (if_pos c2)) (by decide)
      rw [if_pos c2, ob1_s, nI_1, m1]
      exact Or.inr ⟨N2, m2, rfl⟩
    rw [if_neg c2] at o1
    rw [if_neg c2, x_late, w3]
    by_cases c3 : tm X 0 i - X.1 (2 + 2 * i) 4 < 1000
    · obtain ⟨N2, m1, m2⟩ := low 2 (o1.trans (if_pos c3)) (by decide)
      rw [if_pos c3, ob1_s, if_pos rfl, ob1_s, nI_1, m1]
      exact Or.inr ⟨N2, m2, rfl⟩
    rw [if_neg c3] at o1
    rw [if_neg c3, ob1_s, if_neg one_0, x_late, w3]
    by_cases c4 : tm X 1 i - X.1 (2 + 2 * i) 4 < 1000
    · obtain ⟨N2, m1, m2⟩ := low 2 (o1.trans (if_pos c4)) (by decide)
      rw [if_pos c4, ob1_s, if_pos rfl, ob1_s, nI_1, m1]
      exact Or.inr ⟨N2, m2, rfl⟩
    rw [if_neg c4] at o1
    rw [if_neg c4, ob1_s, if_neg one_0]
    have ho3 : ¬ outc X sk i < 3 := by
      rw [o1]
      by_cases c5 : skp X i = 0
      · rw [if_pos c5]; decide
      · rw [if_neg c5]; decide
    have hv := (vF_s h hn hin hk ho3).1
    have ey : (if skp X i = 0 then some (4 : Int32) else some 3) = some (outc X sk i) := by
      rw [o1]
      by_cases c5 : skp X i = 0
      · rw [if_pos c5, if_pos c5]
      · rw [if_neg c5, if_neg c5]
    have x1 : (wI (wI N 237 i (-2000000005)) 236 i (outc X sk i)).1 (2 + 2 * i) = X.1 (2 + 2 * i) := (wI_o (by omega)).trans w3
    have b6 : ∀ v : Int32, gI (wI (wI (wI N 237 i (-2000000005)) 236 i (outc X sk i)) 237 i v) 232 6 = acb X sk i := fun v => (congrFun ((wI_o (by decide)).trans ((wI_o (by decide)).trans (wI_o (by decide)))) 6).trans q2
    have b7 : ∀ v u : Int32, gI (wI (wI (wI (wI N 237 i (-2000000005)) 236 i (outc X sk i)) 237 i v) 232 6 u) 232 7 = cob X sk i := fun v u => (wI_k (by decide)).trans ((congrFun ((wI_o (by decide)).trans ((wI_o (by decide)).trans (wI_o (by decide)))) 7).trans q3)
    rw [ey, ob1_s, x_velC x1, hv, ob1_s, b6, b7, ob1_if, ob1_s, nI_1]
    have a3 : acb X sk (i + 1) = acb X sk i ||| (1 : Int32) <<< (nI i &&& 31) := if_neg ho3
    have a4 : cob X sk (i + 1) = cob X sk i ||| (if skp X i = 0 then 0 else (1 : Int32) <<< (nI i &&& 31)) := by
      show (if outc X sk i = 3 then cob X sk i ||| ((1 : Int32) <<< (nI i &&& 31)) else cob X sk i) = _
      rw [o1]
      by_cases c5 : skp X i = 0
      · rw [if_pos c5, if_neg (by decide), if_pos c5, Int32.or_zero]
      · rw [if_neg c5, if_pos rfl, if_neg c5]
    rw [← a3, ← a4]
    refine Or.inr ⟨_, fin _ ?_ ?_ ?_ ?_ (fun j hj => ⟨?_, ?_⟩) (fun j j6 j7 => ?_) (fun k k1 k2 k3 => ?_) ?_, rfl⟩
    · rw [wI_o (by decide), wI_o (by decide), wI_o (by decide), wI_e]
    · rw [wI_o (by decide), wI_o (by decide), wI_e, if_neg ho3]
    · rw [wI_k (by decide), wI_e]
    · exact wI_e
    · rw [wI_o (by decide), wI_o (by decide), wI_o (by decide), wI_k hj, wI_o (by decide)]
    · rw [wI_o (by decide), wI_o (by decide), wI_k hj, wI_o (by decide), wI_k hj]
    · rw [wI_k j7, wI_k j6, wI_o (by decide), wI_o (by decide), wI_o (by decide)]
    · rw [wI_o k1, wI_o k1, wI_o k3, wI_o k2, wI_o k3]
    · rfl
  · rw [wI_k (by decide), wI_e]; rfl
  · rw [wI_e]; rfl
  · rw [wI_k h7, wI_k h6]
  · rw [wI_o h0, wI_o h0]

/-! P33, 9: the law's look at the paths -/
theorem bz2 {c : Prop} [Decidable c] : bz (if c then (1 : Int32) else 0) = true := by
  by_cases h : c
  · rw [if_pos h]; rfl
  · rw [if_neg h]; rfl
theorem ite_iff {c d : Prop} [Decidable c] [Decidable d] (h : c ↔ d) {α : Type} {x y : α} : (if c then x else y) = (if d then x else y) := by
  by_cases q : c
  · rw [if_pos q, if_pos (h.mp q)]
  · rw [if_neg q, if_neg (fun z => q (h.mpr z))]
theorem fl_miss (X : Mm) (i : Nat) : (flX X i = 1) ↔ ¬ X.1 (2 + 2 * i) 12 ≤ 2 := by
  have e2 : (2 : Int32).toInt = 2 := rfl
  have e3 : (3 : Int32).toInt = 3 := rfl
  rcases flX_v X i with ⟨q, q2⟩ | ⟨q, q2⟩
  · rw [i_lt] at q2
    rw [q, i_le]
    constructor
    · intro z; exact absurd z (by decide)
    · intro z; omega
  · rw [i_lt] at q2
    rw [q, i_le]
    constructor
    · intro _; omega
    · intro _; rfl
section PATHS
variable {X : Mm} {n i t : Nat} {m f s : Int32} {K : Int32 → Int32 → Int32 → Int32 → Option (Int32 × Mm)}
theorem p433 : f_L_paths_J433 (nI i) m f s K = K m f s (nI i + 1) := rfl
theorem p376 (h : NP X n) (hi : i < n) (ht : t < n) (ht2 : plX X n t = i) : f_L_paths_J376 X (nI i) (nI t) m f s K = K m f s (nI i + 1) := by
  have h4 := h.1
  unfold f_L_paths_J376
  rw [p433]
  by_cases c : i = 0
  · subst c
    rw [if_pos (show nI 0 ≤ (0 : Int32) by decide)]
  · obtain ⟨d, rfl⟩ : ∃ d, i = d + 1 := ⟨i - 1, by omega⟩
    obtain ⟨u, u1, u2, u3⟩ := lk_trust h (show d < n by omega)
    have hb := pl_bfr (X := X) (n := n) (i := t) (j := u) ht (by omega)
    rw [if_neg (show ¬ nI (d + 1) ≤ (0 : Int32) from fun q => absurd q (nI_ge (a := 0) (by omega) (by omega))), lk_p13 h ht, ob1_s, nI_pred, u3, ob1_s, lk_p13 h u1, ob1_s]
    by_cases c2 : flX X t = flX X u
    · rw [if_pos c2, lk_p10 h ht, ob1_s, ob1_s, lk_p10 h u1, ob1_s, if_pos]
      rw [i_le]
      rw [i_eq] at c2
      unfold bfr at hb
      omega
    · rw [if_neg c2]
theorem p333 (h : NP X n) (hi : i < n) (ht : t < n) (ht2 : plX X n t = i) (hr : rtX X i = -2000000005 ∨ -5000 ≤ rtX X i ∧ rtX X i ≤ 5000) : f_L_paths_J333 X (nI i) (nI t) m f s K = K m f s (nI i + 1) := by
  unfold f_L_paths_J333
  rw [lk_p7 h hi, ob1_s, p376 h hi ht ht2]
  by_cases c : rtX X i = -2000000005
  · rw [if_pos c]
  · rw [if_neg c, ob1_s]
    rcases hr with q | ⟨q1, q2⟩
    · exact absurd q c
    · rw [if_neg (show ¬ rtX X i < -5000 by rw [i_lt]; rw [i_le] at q1; omega), ob1_s, if_pos q2]
theorem p303 (h : NP X n) (hi : i < n) (ht : t < n) (ht2 : plX X n t = i) (hr : rtX X i = -2000000005 ∨ -5000 ≤ rtX X i ∧ rtX X i ≤ 5000) : f_L_paths_J303 X (nI i) (nI t) m f s K = K m f s (nI i + 1) := by
  have h4 := h.1
  unfold f_L_paths_J303
  rw [p333 h hi ht ht2 hr]
  by_cases c : i = 0
  · subst c
    rw [if_pos (show nI 0 ≤ (0 : Int32) by decide)]
  · obtain ⟨d, rfl⟩ : ∃ d, i = d + 1 := ⟨i - 1, by omega⟩
    obtain ⟨u, u1, u2, u3⟩ := lk_trust h (show d < n by omega)
    have hb := pl_bfr (X := X) (n := n) (i := t) (j := u) ht (by omega)
    rw [if_neg (show ¬ nI (d + 1) ≤ (0 : Int32) from fun q => absurd q (nI_ge (a := 0) (by omega) (by omega))), lk_p13 h ht, ob1_s, nI_pred, u3, ob1_s, lk_p13 h u1, ob1_s, if_neg]
    rw [i_lt]
    unfold bfr at hb
    omega
theorem p271 (h : NP X n) (hi : i < n) (ht : t < n) (ht2 : plX X n t = i) (hr : rtX X i = -2000000005 ∨ -5000 ≤ rtX X i ∧ rtX X i ≤ 5000) (hv : 2 < (X.1 (2 + 2 * i) 10).toInt → -100000 ≤ (X.1 (2 + 2 * i) 11).toInt ∧ (X.1 (2 + 2 * i) 11).toInt ≤ 100000) : f_L_paths_J271 X (nI i) (nI t) (X.1 (2 + 2 * i) 10) m f s K = K m f s (nI i + 1) := by
  have e2 : (2 : Int32).toInt = 2 := rfl
  have e3 : (-100000 : Int32).toInt = -100000 := rfl
  have e4 : (100000 : Int32).toInt = 100000 := rfl
  unfold f_L_paths_J271
  rw [p303 h hi ht ht2 hr]
  by_cases c : X.1 (2 + 2 * i) 10 ≤ 2
  · rw [if_pos c]
  · rw [if_neg c, lk_p9 h hi, ob1_s, ob1_s]
    rw [i_le] at c
    obtain ⟨a, b⟩ := hv (by omega)
    rw [if_neg (show ¬ X.1 (2 + 2 * i) 11 < -100000 by rw [i_lt]; omega), if_neg (show ¬ (100000 : Int32) < X.1 (2 + 2 * i) 11 by rw [i_lt]; omega)]
theorem p249 (h : NP X n) (hi : i < n) (ht : t < n) (ht2 : plX X n t = i) (hr : rtX X i = -2000000005 ∨ -5000 ≤ rtX X i ∧ rtX X i ≤ 5000) {B : Nat} {S : Nat → Int32} (hs : SP B (X.1 (2 + 2 * i)) S) : f_L_paths_J249 X (nI i) (nI t) (X.1 (2 + 2 * i) 10) m f s K = K m f s (nI i + 1) := by
  have e0 : (0 : Int32).toInt = 0 := rfl
  have e3 : (3 : Int32).toInt = 3 := rfl
  unfold f_L_paths_J249
  rw [p271 h hi ht ht2 hr (fun z => (hs.2.1 z).2)]
  by_cases c : X.1 (2 + 2 * i) 10 < 0
  · rw [if_pos c]
  · rw [if_neg c]
    by_cases c2 : (3 : Int32) ≤ X.1 (2 + 2 * i) 10
    · rw [if_pos c2]
    · rw [if_neg c2, lk_p10 h hi, ob1_s, if_neg]
      rw [i_lt] at c
      rw [i_le] at c2
      exact hs.2.2.1 (by omega) (by omega)
theorem p195 (h : NP X n) (hi : i < n) (ht : t < n) (ht2 : plX X n t = i) (hr : rtX X i = -2000000005 ∨ -5000 ≤ rtX X i ∧ rtX X i ≤ 5000) {B : Nat} {S : Nat → Int32} (hs : SP B (X.1 (2 + 2 * i)) S) : f_L_paths_J195 X (nI i) (nI t) (X.1 (2 + 2 * i) 10) m f s K = K m f s (nI i + 1) := by
  have e2 : (2 : Int32).toInt = 2 := rfl
  unfold f_L_paths_J195
  rw [p249 h hi ht ht2 hr hs, lk_p13 h hi, ob1_s, lk_p10 h hi, ob1_if, ob1_s, ob1_if]
  have e : (if flX X i = 1 then (1 : Int32) else 0) = (if X.1 (2 + 2 * i) 12 ≤ 2 then 0 else 1) := by
    by_cases q : flX X i = 1
    · rw [if_pos q, if_neg ((fl_miss X i).mp q)]
    · rw [if_neg q, if_pos]
      by_cases z : X.1 (2 + 2 * i) 12 ≤ 2
      · exact z
      · exact absurd ((fl_miss X i).mpr z) q
  rw [if_pos e]
  by_cases c : X.1 (2 + 2 * i) 10 ≤ 2
  · rw [if_pos c]
  · rw [if_neg c, ob1_s, if_pos]
    rw [i_le] at c
    exact (hs.2.1 (by omega)).1
end PATHS
/-- the speed of sound out of the reference times -/
theorem lk_sound {X Y : Mm} {n i : Nat} (h : NP X n) (hi : i < n) (hL : PL (X.1 (2 + 2 * i)) (X.1 (3 + 2 * i)) (fun k => Y.1 1 (16 * i + k))) : (X.1 (2 + 2 * i) 5 = 0 ∧ f_X10_sound (nI i) X = some (-2000000005)) ∨ (¬ X.1 (2 + 2 * i) 5 = 0 ∧ ∃ v : Int64, f_X10_sound (nI i) X = some v ∧ ¬ v ≤ 0) := by
  have h4 := h.1
  obtain ⟨⟨l1, l2⟩, -, d0, d1⟩ := hL.mk
  unfold f_X10_sound
  rw [at_in h hi, ob1_s, onl_s, chk_p (ks_path (by omega))]
  rcases hL.ref with ⟨q, -⟩ | ⟨q, -, -, -, t6, t7⟩
  · rw [if_pos (show gI X (2 + 2 * i) 5 = 0 from q)]
    exact Or.inl ⟨q, rfl⟩
  · rw [if_neg (show ¬ gI X (2 + 2 * i) 5 = 0 from q)]
    refine Or.inr ⟨q, ?_⟩
    obtain ⟨a1, a2, a3⟩ := net_rng d0 d1 t6
    obtain ⟨b1, b2, b3⟩ := net_rng d0 d1 t7
    obtain ⟨p1, p2⟩ := prod_rng a2 a3 b2 b3
    unfold f_X3_speedOfSound
    rw [lt1_s, lt1_s, show gI X (2 + 2 * i) 0 = X.1 (2 + 2 * i) 0 from rfl, show gI X (2 + 2 * i) 4 = X.1 (2 + 2 * i) 4 from rfl, show gI X (2 + 2 * i) 6 = X.1 (2 + 2 * i) 6 from rfl, show gI X (2 + 2 * i) 7 = X.1 (2 + 2 * i) 7 from rfl, quot (net_ne d0 d1 t6 t7), ob1_s]
    refine ⟨_, rfl, ?_⟩
    have f5 : (500000 : Int64).toInt = 500000 := rfl
    have q1 : (Int32.toInt64 (X.1 (2 + 2 * i) 0) * (500000 : Int64)).toInt = (X.1 (2 + 2 * i) 0).toInt * 500000 := by rw [fb_mulL] <;> rw [Int32.toInt_toInt64, f5] <;> omega
    have q2 : (Int32.toInt64 (X.1 (2 + 2 * i) 6 - X.1 (2 + 2 * i) 4) + Int32.toInt64 (X.1 (2 + 2 * i) 7 - X.1 (2 + 2 * i) 4)).toInt = ((X.1 (2 + 2 * i) 6).toInt - (X.1 (2 + 2 * i) 4).toInt) + ((X.1 (2 + 2 * i) 7).toInt - (X.1 (2 + 2 * i) 4).toInt) := by rw [fb_addL] <;> rw [Int32.toInt_toInt64, Int32.toInt_toInt64, a1, b1] <;> omega
    have L1 : 25000000 ≤ (X.1 (2 + 2 * i) 0).toInt * 500000 ∧ (X.1 (2 + 2 * i) 0).toInt * 500000 ≤ 1000000000 := by omega
    generalize hF : (X.1 (2 + 2 * i) 6).toInt - (X.1 (2 + 2 * i) 4).toInt = F at *
    generalize hG : (X.1 (2 + 2 * i) 7).toInt - (X.1 (2 + 2 * i) 4).toInt = G at *
    have m1 : (X.1 (2 + 2 * i) 0).toInt * 500000 * (F + G) ≤ 1000000000 * (F + G) := Int.mul_le_mul_of_nonneg_right L1.2 (by omega)
    have m2 : 25000000 * (F + G) ≤ (X.1 (2 + 2 * i) 0).toInt * 500000 * (F + G) := Int.mul_le_mul_of_nonneg_right L1.1 (by omega)
    have q3 : (Int32.toInt64 (X.1 (2 + 2 * i) 0) * (500000 : Int64) * (Int32.toInt64 (X.1 (2 + 2 * i) 6 - X.1 (2 + 2 * i) 4) + Int32.toInt64 (X.1 (2 + 2 * i) 7 - X.1 (2 + 2 * i) 4))).toInt = (X.1 (2 + 2 * i) 0).toInt * 500000 * (F + G) := by rw [fb_mulL] <;> rw [q1, q2] <;> omega
    have q6 : (Int32.toInt64 (X.1 (2 + 2 * i) 6 - X.1 (2 + 2 * i) 4) * Int32.toInt64 (X.1 (2 + 2 * i) 7 - X.1 (2 + 2 * i) 4)).toInt = F * G := by rw [fb_mulL] <;> rw [Int32.toInt_toInt64, Int32.toInt_toInt64, a1, b1] <;> omega
    have q7 : (Int32.toInt64 (X.1 (2 + 2 * i) 6 - X.1 (2 + 2 * i) 4) * Int32.toInt64 (X.1 (2 + 2 * i) 7 - X.1 (2 + 2 * i) 4) / (1000 : Int64)).toInt = F * G / 1000 := by
      rw [Int64.toInt_div_of_ne_right _ _ (by decide), q6, show (1000 : Int64).toInt = 1000 from rfl, Int.tdiv_eq_ediv_of_nonneg (by omega)]
    have n7 : Int32.toInt64 (X.1 (2 + 2 * i) 6 - X.1 (2 + 2 * i) 4) * Int32.toInt64 (X.1 (2 + 2 * i) 7 - X.1 (2 + 2 * i) 4) / (1000 : Int64) ≠ -1 := fun q => by
      have := congrArg Int64.toInt q
      rw [q7, show (-1 : Int64).toInt = -1 from rfl] at this
      omega
    have m3 : F * G ≤ 10100000 * G := Int.mul_le_mul_of_nonneg_right a3 (by omega)
    rw [j_le, Int64.toInt_div_of_ne_right _ _ n7, q3, q7, show (0 : Int64).toInt = 0 from rfl]
    have := (tdiv_ab (S := (X.1 (2 + 2 * i) 0).toInt * 500000 * (F + G)) (W := F * G / 1000) (a := 1) (b := 1000000000 * (F + G)) (by omega) (by omega) (by
      have z : 1000000000 * (F + G) * 1 ≤ 1000000000 * (F + G) * (F * G / 1000) := Int.mul_le_mul_of_nonneg_left (by omega) (by omega)
      omega)).1
    omega
theorem rtX_r {X Y : Mm} {i : Nat} (hL : PL (X.1 (2 + 2 * i)) (X.1 (3 + 2 * i)) (fun k => Y.1 1 (16 * i + k))) : (X.1 (2 + 2 * i) 8 = 0 ∧ rtX X i = -2000000005) ∨ (¬ X.1 (2 + 2 * i) 8 = 0 ∧ ¬ rtX X i = -2000000005 ∧ -5000 ≤ rtX X i ∧ rtX X i ≤ 5000) := by
  unfold rtX
  rcases hL.rat with ⟨q, -⟩ | ⟨q, z, z2, z3, z4⟩
  · exact Or.inl ⟨q, if_pos q⟩
  · rw [if_neg q]
    exact Or.inr ⟨q, by rw [← z2]; exact z, z3, z4⟩
theorem p175 {X Y : Mm} {n i t B : Nat} {m f s : Int32} {K : Int32 → Int32 → Int32 → Int32 → Option (Int32 × Mm)} {S : Nat → Int32} (h : NP X n) (hi : i < n) (ht : t < n) (ht2 : plX X n t = i) (hL : PL (X.1 (2 + 2 * i)) (X.1 (3 + 2 * i)) (fun k => Y.1 1 (16 * i + k))) (hs : SP B (X.1 (2 + 2 * i)) S) : f_L_paths_J175 X (nI i) (nI t) (rfF X i) (X.1 (2 + 2 * i) 10) m f s K = K m f s (nI i + 1) := by
  have hr : rtX X i = -2000000005 ∨ -5000 ≤ rtX X i ∧ rtX X i ≤ 5000 := (rtX_r hL).elim (fun q => Or.inl q.2) (fun q => Or.inr q.2.2)
  unfold f_L_paths_J175
  rw [p195 h hi ht ht2 hr hs]
  rcases lk_sound h hi hL with ⟨q, q2⟩ | ⟨q, v, q2, q3⟩
  · rw [q2, ob1_s, if_pos rfl, ite_self]
  · have : ¬ rfF X i = -2000000005 := by
      unfold rfF
      rw [if_neg q]
      rcases hL.ref with ⟨z, -⟩ | ⟨-, z, z2, -⟩
      · exact absurd z q
      · rw [← z2]; exact z
    rw [if_neg this]
/-- what is told of a shot -/
theorem td_no {X Y : Mm} {i B : Nat} (hL : PL (X.1 (2 + 2 * i)) (X.1 (3 + 2 * i)) (fun k => Y.1 1 (16 * i + k))) (hs : SP B (X.1 (2 + 2 * i)) (X.1 (3 + 2 * i))) : (X.1 (3 + 2 * i) 0 = 0 ∧ tdX X i 0 = -2000000005 ∧ tdX X i 1 = -2000000005 ∧ tdX X i 2 = -2000000005) ∨ (¬ X.1 (3 + 2 * i) 0 = 0 ∧ ¬ tdX X i 0 = -2000000005 ∧ ¬ tdX X i 1 = -2000000005 ∧ ¬ tdX X i 2 = -2000000005 ∧ tdX X i 0 = X.1 (3 + 2 * i) 1 ∧ tdX X i 1 = X.1 (3 + 2 * i) 2 ∧ tdX X i 2 = X.1 (3 + 2 * i) 3) := by
  unfold tdX
  have d0 := hL.1.2.2.2.1
  have d1 := hL.1.2.2.2.2
  rcases hL.sho with ⟨q, -⟩ | ⟨q, q1, -, -, -, -, o1, o2⟩
  · rw [if_pos q, if_pos q, if_pos q]
    exact Or.inl ⟨q, rfl, rfl, rfl⟩
  · rw [if_neg q, if_neg q, if_neg q]
    refine Or.inr ⟨q, tm_no d0 d1 o1.1, tm_no d0 d1 o2.1, ?_, rfl, rfl, rfl⟩
    have := hs.2.2.2 q1
    exact no_of (by show -1000000 ≤ (X.1 (3 + 2 * i) 3).toInt; omega)
theorem outc_0 {X : Mm} {sk : Int32} {i : Nat} : outc X sk i = 0 ↔ X.1 (3 + 2 * i) 0 = 0 := by
  constructor
  · intro h
    by_cases c : X.1 (3 + 2 * i) 0 = 0
    · exact c
    · exfalso
      unfold outc at h
      rw [if_neg c] at h
      revert h
      split
      · split
        · decide
        · split
          · decide
          · split
            · decide
            · split <;> decide
      · decide
  · intro h
    unfold outc
    rw [if_pos h]
theorem outc_1 {X : Mm} {sk : Int32} {i : Nat} : outc X sk i = 1 ↔ ¬ X.1 (3 + 2 * i) 0 = 0 ∧ ¬ X.1 13 0 ≤ X.1 (3 + 2 * i) 3 := by
  unfold outc
  by_cases c : X.1 (3 + 2 * i) 0 = 0
  · rw [if_pos c]
    exact ⟨fun h => absurd h (by decide), fun h => absurd c h.1⟩
  · rw [if_neg c]
    by_cases d : X.1 13 0 ≤ X.1 (3 + 2 * i) 3
    · rw [if_pos d]
      refine ⟨fun h => ?_, fun h => absurd d h.2⟩
      exfalso
      revert h
      split
      · decide
      · split
        · decide
        · split
          · decide
          · split <;> decide
    · rw [if_neg d]
      exact ⟨fun _ => ⟨c, d⟩, fun _ => rfl⟩
theorem outc_mono {X : Mm} {a b : Int32} {i : Nat} (hab : a ≤ b) (h : outc X b i = 2) : outc X a i = 2 := by
  unfold outc at h ⊢
  by_cases c : X.1 (3 + 2 * i) 0 = 0
  · rw [if_pos c] at h; exact absurd h (by decide)
  rw [if_neg c] at h ⊢
  by_cases d : X.1 13 0 ≤ X.1 (3 + 2 * i) 3
  · rw [if_pos d] at h ⊢
    by_cases e : b < skp X i
    · rw [if_pos]
      rw [i_le] at hab
      rw [i_lt] at e ⊢
      omega
    · rw [if_neg e] at h
      by_cases e2 : a < skp X i
      · rw [if_pos e2]
      · rw [if_neg e2]
        exact h
  · rw [if_neg d] at h; exact absurd h (by decide)
theorem bs_or {fl : Nat → Bool} {t : Nat} (ht : t < 4) : bitset fl 4 ||| ((1 : Int32) <<< (nI t &&& 31)) = bitset (fun i => fl i || decide (i = t)) 4 := by
  have e : ∀ t, t < 4 → ((1 : Int32) <<< (nI t &&& 31)) = bitset (fun i => decide (i = t)) 4 := by decide +kernel
  rw [e t ht, bitset_or]
theorem bs_full : ∀ n, n ≤ 4 → bitset (fun i => decide (i < n)) 4 = ((1 : Int32) <<< (nI n &&& 31)) - 1 := by decide +kernel
theorem PA.np {X Y : Mm} {n : Nat} (h : PA n X.1 (Y.1 1)) : NP X n := ⟨h.1, h.2.1⟩
theorem fl_0 {X Y : Mm} {n : Nat} (h : PA n X.1 (Y.1 1)) : ∀ i, n ≤ i → i < 4 → flX X i = 0 := fun i h1 h2 => by
  unfold flX
  rw [(h.2.2.2.2 i h1 h2).2.2.2.2.1]
  rfl
theorem sh_0 {X Y : Mm} {n : Nat} (h : PA n X.1 (Y.1 1)) : ∀ i, n ≤ i → i < 4 → X.1 (3 + 2 * i) 0 = 0 := fun i h1 h2 => (h.2.2.2.2 i h1 h2).2.2.2.2.2.2.2
set_option maxHeartbeats 1000000 in
theorem m_paths2 {X M : Mm} {B n : Nat} {met fails shots needed : Int32} (hI : Inv B X) (hn : NP X n) (hJ0 : Jd X M) (hR0 : ∃ Y', Rel M Y')
    (hmet : met = ((1 : Int32) <<< (nI n &&& 31)) - 1) (hf : fails = sm (fun i => flX X i) 4) (hs : shots = sm (fun i => if X.1 (3 + 2 * i) 0 = 0 then 0 else 1) 4)
    (hnd : (needed = -2000000005 ∧ ∀ s, s ≤ 5 → ∃ i, i < 4 ∧ outc X (nI s) i = 2) ∨ (∃ s, s ≤ 5 ∧ needed = nI s ∧ (∀ i, i < 4 → ¬ outc X (nI s) i = 2) ∧ ∀ t, t < s → ∃ i, i < 4 ∧ outc X (nI t) i = 2)) :
    ∃ X', f_L_paths_L454 (nI n) met fails shots needed 1000 (0 : Int32) (0 : Int32) (0 : Int32) M = some (1, X') ∧ (∃ Y', Rel X' Y') ∧ Jd X X' := by
  obtain ⟨⟨Y, hR⟩, hSI, -⟩ := id hI
  rw [vI_0] at hSI
  obtain ⟨⟨n', hA⟩, -, hPS, -⟩ := hR.pg
  have hn4 := hn.1
  obtain rfl : n' = n := (nI_eq (by have := hA.1; omega) (by omega)).mp (hA.2.1.symm.trans hn.2)
  have hp := hA.2.2.2.1
  have oN : ∀ i, i < 4 → ¬ outc X (X.1 13 1) i = 0 → i < n' := fun i hi ho => by
    rcases Nat.lt_or_ge i n' with q | q
    · exact q
    · exact absurd (outc_0.mpr (sh_0 hA i q hi)) ho
  have hmain : ∃ b, f_L_paths_L454 (nI n') met fails shots needed 1000 (0 : Int32) (0 : Int32) (0 : Int32) M = some b ∧ (b.1 = 1 ∧ (∃ Y', Rel b.2 Y') ∧ Jd X b.2) := by
    refine lpUp (L := fun f x (s : (Int32 × Int32) × Mm) => f_L_paths_L454 (nI n') met fails shots needed f s.1.1 s.1.2 x s.2) n' (fun i s => (∃ Y', Rel s.2 Y') ∧ Jd X s.2 ∧ ((s.1.1 = 0 ∧ ∀ q, q < i → ¬ outc X (X.1 13 1) q = 2) ∨ (s.1.1 = 1 ∧ ∃ q, q < i ∧ outc X (X.1 13 1) q = 2)) ∧ ((s.1.2 = 0 ∧ ∀ q, q < i → ¬ accF X (X.1 13 1) q = true) ∨ (s.1.2 = 1 ∧ ∃ q, q < i ∧ accF X (X.1 13 1) q = true))) (fun b => b.1 = 1 ∧ (∃ Y', Rel b.2 Y') ∧ Jd X b.2) (fun f s hs' => ?_) (fun f i s hi hs' => ?_) (by omega) (s := ((0, 0), M)) ⟨hR0, hJ0, Or.inl ⟨rfl, fun q hq => absurd hq (by omega)⟩, Or.inl ⟨rfl, fun q hq => absurd hq (by omega)⟩⟩
    · obtain ⟨⟨o, a⟩, N⟩ := s
      obtain ⟨⟨YN, hRN⟩, hJ, ho, ha⟩ := hs'
      have ho' : (o = 0 ∧ ∀ q, q < n' → ¬ outc X (X.1 13 1) q = 2) ∨ (o = 1 ∧ ∃ q, q < n' ∧ outc X (X.1 13 1) q = 2) := ho
      have ha' : (a = 0 ∧ ∀ q, q < n' → ¬ accF X (X.1 13 1) q = true) ∨ (a = 1 ∧ ∃ q, q < n' ∧ accF X (X.1 13 1) q = true) := ha
      have hRN' : Rel N YN := hRN
      have hJN : Jd X N := hJ
      have hpN : PgE N 0 X 0 := hJN.pg
      have hnN : NP N n' := hn.se hpN
      have e7 : f_X10_total 7 N = some fails := by
        rw [lk_7, hf]
        exact congrArg some (sm_congr (fun i hi => by
          show flX N i = flX X i
          unfold flX
          rw [se_p hpN hi (by decide)]))
      have e2 : f_X10_total 2 N = some shots := by
        rw [lk_2, hs]
        exact congrArg some (sm_congr (fun i hi => by
          show (if N.1 (3 + 2 * i) 0 = 0 then (0 : Int32) else 1) = _
          rw [se_s hpN hi (by decide)]))
      have e11 : f_X10_total 11 N = some (X.1 13 1) := (lk_s (X := N) (q := 1) (by decide)).trans (by rw [se_g hpN (by decide)])
      show ∃ b, f_L_paths_L454 (nI n') met fails shots needed (f + 1) o a (nI n') N = some b ∧ _
      rw [f_L_paths_L454, if_pos (Int32.le_refl _), if_pos hmet, lk_trustN hnN, ob1_s, if_pos rfl, e7, ob1_s, if_pos rfl, e2, ob1_s, if_pos rfl, lk_pn hnN, ob1_s, if_pos rfl]
      -- outliers and the skips needed
      have hsk : ∃ s0, s0 ≤ 5 ∧ X.1 13 1 = nI s0 := by
        obtain ⟨-, -, ⟨g0, g1⟩, -⟩ := hPS
        obtain ⟨j, hj, e⟩ := nI_of2 (n := 5) (M := 5) rfl (fun q => by rw [i_le] at g0; rw [i_lt] at q; have : (0 : Int32).toInt = 0 := rfl; omega) g1
        exact ⟨j, hj, e⟩
      obtain ⟨s0, hs0, es0⟩ := hsk
      have hy : ∃ y, (if needed = (-2000000005 : Int32) then some (1 : Int32) else ob1 (some (X.1 13 1)) fun r_17 => if needed ≤ r_17 then some (0 : Int32) else some (1 : Int32)) = some y ∧ o = y := by
        rcases hnd with ⟨q, q2⟩ | ⟨s, q1, q2, q3, q4⟩
        · rw [if_pos q]
          refine ⟨1, rfl, ?_⟩
          obtain ⟨i, i1, i2⟩ := q2 s0 hs0
          rw [← es0] at i2
          rcases ho' with ⟨z, z2⟩ | ⟨z, -⟩
          · exact absurd i2 (z2 i (oN i i1 (by rw [i2]; decide)))
          · exact z
        · rw [if_neg (show ¬ needed = -2000000005 from fun z => absurd (nI_pos' (n := s) (by omega)) (by rw [← q2, z]; decide)), ob1_s]
          by_cases c : s ≤ s0
          · rw [if_pos (show needed ≤ X.1 13 1 by rw [q2, es0]; exact nI_le c (by omega))]
            refine ⟨0, rfl, ?_⟩
            rcases ho' with ⟨z, -⟩ | ⟨-, i, i1, i2⟩
            · exact z
            · rw [es0] at i2
              exact absurd (outc_mono (nI_le c (by omega)) i2) (q3 i (by omega))
          · rw [if_neg (show ¬ needed ≤ X.1 13 1 by rw [q2, es0]; exact nI_ge (by omega) (by omega))]
            refine ⟨1, rfl, ?_⟩
            obtain ⟨i, i1, i2⟩ := q4 s0 (by omega)
            rw [← es0] at i2
            rcases ho' with ⟨z, z2⟩ | ⟨z, -⟩
            · exact absurd i2 (z2 i (oN i i1 (by rw [i2]; decide)))
            · exact z
      obtain ⟨y, hy1, hy2⟩ := hy
      rw [e11, hy1, ob1_s, if_pos hy2]
      rcases Nat.eq_zero_or_pos n' with z | z
      · subst z
        rw [x_wouldBe0 hnN, ob2_s, if_pos (show nI 0 = (0 : Int32) from rfl), ob2_s, if_pos rfl, if_pos (show nI 0 = (0 : Int32) from rfl)]
        exact ⟨_, rfl, rfl, ⟨YN, hRN'⟩, hJN⟩
      · have nz : ¬ nI n' = 0 := nI_ne0 (by omega) (by omega)
        obtain ⟨N1, w1, ⟨Y1, hR1⟩, hJ1⟩ := x_wouldBe hRN' hnN z
        obtain ⟨N2, w2, ⟨Y2, hR2⟩, hJ2⟩ := x_wouldBe hR1 (hnN.se hJ1.pg) z
        obtain ⟨N3, w3, ⟨Y3, hR3⟩, hJ3⟩ := x_wouldBe hR2 (hnN.se (hJ1.pg.tr hJ2.pg)) z
        rw [se_wb hJ1.pg] at w2
        rw [se_wb (hJ1.pg.tr hJ2.pg)] at w3
        have ewb : wbX N = wbX X := se_wb hpN
        have nr : (a = 0 ∧ wbX N = -2000000005) ∨ (a = 1 ∧ ¬ wbX N = -2000000005) := by
          rw [ewb]
          rcases ha' with ⟨q, q2⟩ | ⟨q, i, i1, i2⟩
          · refine Or.inl ⟨q, ?_⟩
            unfold wbX
            rw [if_pos]
            refine bitset_0.mpr (fun i hi => ?_)
            cases hz : accF X (X.1 13 1) i with
            | false => rfl
            | true => exact absurd hz (q2 i (oN i hi (by
                rcases acc_if.mp hz with u | u
                · rw [u]; decide
                · rw [u]; decide)))
          · refine Or.inr ⟨q, ?_⟩
            have hb : ¬ bitset (accF X (X.1 13 1)) 4 = 0 := bs_ex.mpr ⟨i, by omega, i2⟩
            obtain ⟨XJ, -, -, -, -, -, -, -, -, hm⟩ := x_judge hR (nn_sk hR)
            unfold wbX
            rw [if_neg hb]
            rcases hm with ⟨u, -⟩ | ⟨-, -, -, -, -, hA'⟩
            · exact absurd u hb
            · exact hA'.nn.1
        rw [w1, ob2_s, if_neg nz]
        rcases nr with ⟨q1, q2⟩ | ⟨q1, q2⟩
        · rw [if_pos q1, ob2_s, if_pos q2, if_neg nz, w2, ob2_s, if_pos q2, ob1_s, if_pos q1]
          exact ⟨_, rfl, rfl, ⟨Y2, hR2⟩, hJN.tr (hJ1.tr hJ2)⟩
        · rw [if_neg (show ¬ a = 0 by rw [q1]; decide), w2, ob2_s, ob2_s, if_pos rfl, if_neg nz, w3, ob2_s, if_neg q2, ob1_s, if_pos q1]
          exact ⟨_, rfl, rfl, ⟨Y3, hR3⟩, hJN.tr (hJ1.tr (hJ2.tr hJ3))⟩
    · obtain ⟨⟨o, a⟩, N⟩ := s
      obtain ⟨⟨YN, hRN⟩, hJ, ho, ha⟩ := hs'
      have ho' : (o = 0 ∧ ∀ q, q < i → ¬ outc X (X.1 13 1) q = 2) ∨ (o = 1 ∧ ∃ q, q < i ∧ outc X (X.1 13 1) q = 2) := ho
      have ha' : (a = 0 ∧ ∀ q, q < i → ¬ accF X (X.1 13 1) q = true) ∨ (a = 1 ∧ ∃ q, q < i ∧ accF X (X.1 13 1) q = true) := ha
      have hRN' : Rel N YN := hRN
      have hJN : Jd X N := hJ
      obtain ⟨N1, w1, ⟨Y1, hR1⟩, hJ1⟩ := x_wouldBecome hRN' (hn.se hJN.pg) hi
      have hp1 : PgE N1 0 X 0 := hJN.pg.tr hJ1.pg
      have hn1 : NP N1 n' := hn.se hp1
      rw [se_g hJN.pg (by decide), se_outc hJN.pg _ (by omega)] at w1
      have et : ∀ q, q < 3 → f_X10_told (nI i) (nI q) N1 = some (tdX X i q) := fun q hq => by
        rw [lk_t hn1 hi hq]
        unfold tdX
        rw [se_s hp1 (by omega) (by decide), se_s hp1 (by omega) (by omega)]
      have e0 : f_X10_told (nI i) 0 N1 = some (tdX X i 0) := et 0 (by decide)
      have e2 : f_X10_told (nI i) 2 N1 = some (tdX X i 2) := et 2 (by decide)
      have e10 : f_X10_total 10 N1 = some (X.1 13 0) := (lk_s (X := N1) (q := 0) (by decide)).trans (by rw [se_g hp1 (by decide)])
      have hSi := hSI.1 i (by omega)
      have td := td_no (hp i hi) hSi
      show (∃ b, f_L_paths_L454 (nI n') met fails shots needed (f + 1) o a (nI i) N = some b ∧ _) ∨ (∃ s', _ ∧ f_L_paths_L454 (nI n') met fails shots needed (f + 1) o a (nI i) N = _)
      rw [f_L_paths_L454, if_neg (show ¬ nI n' ≤ nI i from nI_ge hi (by omega)), w1, ob2_s]
      have y29 : ∃ o', (if o = (0 : Int32) then (if outc X (X.1 13 1) i = 2 then some (1 : Int32) else some 0) else some 1) = some o' ∧ ((o' = 0 ∧ ∀ q, q < i + 1 → ¬ outc X (X.1 13 1) q = 2) ∨ (o' = 1 ∧ ∃ q, q < i + 1 ∧ outc X (X.1 13 1) q = 2)) := by
        rcases ho' with ⟨q, q2⟩ | ⟨q, j, j1, j2⟩
        · rw [if_pos q]
          by_cases c : outc X (X.1 13 1) i = 2
          · rw [if_pos c]
            exact ⟨1, rfl, Or.inr ⟨rfl, i, by omega, c⟩⟩
          · rw [if_neg c]
            refine ⟨0, rfl, Or.inl ⟨rfl, fun j hj => ?_⟩⟩
            rcases Nat.eq_or_lt_of_le (show j ≤ i by omega) with z | z
            · subst z; exact c
            · exact q2 j z
        · rw [if_neg (show ¬ o = 0 by rw [q]; decide)]
          exact ⟨1, rfl, Or.inr ⟨rfl, j, by omega, j2⟩⟩
      have y30 : ∃ a', (if a = (0 : Int32) then (if outc X (X.1 13 1) i ≤ 2 then some (0 : Int32) else some 1) else some 1) = some a' ∧ ((a' = 0 ∧ ∀ q, q < i + 1 → ¬ accF X (X.1 13 1) q = true) ∨ (a' = 1 ∧ ∃ q, q < i + 1 ∧ accF X (X.1 13 1) q = true)) := by
        have acc2 : accF X (X.1 13 1) i = true ↔ ¬ outc X (X.1 13 1) i ≤ 2 := by
          rw [acc_if]
          rcases outc_v X (X.1 13 1) i with u | u | u | u | u
          all_goals (rw [u]; decide)
        rcases ha' with ⟨q, q2⟩ | ⟨q, j, j1, j2⟩
        · rw [if_pos q]
          by_cases c : outc X (X.1 13 1) i ≤ 2
          · rw [if_pos c]
            refine ⟨0, rfl, Or.inl ⟨rfl, fun j hj => ?_⟩⟩
            rcases Nat.eq_or_lt_of_le (show j ≤ i by omega) with z | z
            · subst z; exact fun u => acc2.mp u c
            · exact q2 j z
          · rw [if_neg c]
            exact ⟨1, rfl, Or.inr ⟨rfl, i, by omega, acc2.mpr c⟩⟩
        · rw [if_neg (show ¬ a = 0 by rw [q]; decide)]
          exact ⟨1, rfl, Or.inr ⟨rfl, j, by omega, j2⟩⟩
      obtain ⟨o', o1, o2⟩ := y29
      obtain ⟨a', a1, a2⟩ := y30
      rw [o1, ob1_s, a1, ob1_s, ob1_if, e0, ob1_s, ob1_if, if_pos, ob1_if, e2, ob1_s, ob1_s, e10]
      · have y36 : ∃ y, (if tdX X i 2 = (-2000000005 : Int32) then some (0 : Int32) else ob1 (some (X.1 13 0)) fun r_38 => if r_38 ≤ tdX X i 2 then some 0 else some 1) = some y ∧ (if outc X (X.1 13 1) i = 1 then (1 : Int32) else 0) = y := by
          rcases td with ⟨q, -, -, q2⟩ | ⟨q, -, -, q2, -, -, q3⟩
          · rw [if_pos q2]
            refine ⟨0, rfl, if_neg (fun z => (outc_1.mp z).1 q)⟩
          · rw [if_neg q2, ob1_s, q3]
            by_cases c : X.1 13 0 ≤ X.1 (3 + 2 * i) 3
            · rw [if_pos c]
              exact ⟨0, rfl, if_neg (fun z => (outc_1.mp z).2 c)⟩
            · rw [if_neg c]
              exact ⟨1, rfl, if_pos (outc_1.mpr ⟨q, c⟩)⟩
        obtain ⟨y, y1, y2⟩ := y36
        rw [y1, ob1_s, if_pos y2, lt1_s, nI_1]
        exact Or.inr ⟨((o', a'), N1), ⟨⟨Y1, hR1⟩, hJN.tr hJ1, o2, a2⟩, rfl⟩
      · rcases td with ⟨q, q2, -⟩ | ⟨q, q2, -⟩
        · rw [if_pos (outc_0.mpr q), if_pos q2]
        · rw [if_neg (fun z => q (outc_0.mp z)), if_neg q2]
  
  obtain ⟨b, hb, hb1, hb2, hb3⟩ := hmain
  obtain ⟨r, X'⟩ := b
  obtain rfl : r = 1 := hb1
  exact ⟨X', hb, hb2, hb3⟩
set_option maxHeartbeats 1000000 in
theorem m_paths {X : Mm} {B : Nat} (hI : Inv B X) : ∃ X', f_L_paths X = some (1, X') ∧ Inv B X' ∧ Jd X X' := by
  obtain ⟨⟨Y, hR⟩, hSI, -⟩ := id hI
  rw [vI_0] at hSI
  obtain ⟨⟨n, hA⟩, -⟩ := hR.pg
  obtain ⟨hn4, hx, hy, hp, hq⟩ := id hA
  have hn : NP X n := hA.np
  have htr : ∀ k : Nat, ∃ t, k < n → t < n ∧ plX X n t = k ∧ f_X10_trust (nI k) X = some (nI t) := fun k => by
    by_cases c : k < n
    · obtain ⟨t, h1⟩ := lk_trust hn c
      exact ⟨t, fun _ => h1⟩
    · exact ⟨0, fun h => absurd h c⟩
  obtain ⟨tr, htr⟩ := Classical.axiomOfChoice htr
  have hmain : ∃ b, f_L_paths_L16 X (nI n) 1000 (0 : Int32) (0 : Int32) (0 : Int32) (0 : Int32) = some b ∧ (b.1 = 1 ∧ (∃ Y', Rel b.2 Y') ∧ Jd X b.2) := by
    refine lpUp (L := fun f x (s : Int32 × Int32 × Int32) => f_L_paths_L16 X (nI n) f s.1 s.2.1 s.2.2 x) n (fun i s => (∃ fl : Nat → Bool, s.1 = bitset fl 4 ∧ ∀ q, q < 4 → (fl q = true ↔ q < n ∧ plX X n q < i)) ∧ s.2.1 = sm (fun i => flX X i) i ∧ s.2.2 = sm (fun i => if X.1 (3 + 2 * i) 0 = 0 then 0 else 1) i) (fun b => b.1 = 1 ∧ (∃ Y', Rel b.2 Y') ∧ Jd X b.2) (fun f s hs => ?_) (fun f i s hi hs => ?_) (by omega) (s := ((0 : Int32), (0 : Int32), (0 : Int32))) ⟨⟨fun _ => false, rfl, fun q _ => ⟨fun z => (Bool.false_ne_true z).elim, fun z => absurd z.2 (by omega)⟩⟩, rfl, rfl⟩
    · obtain ⟨m, fa, sh⟩ := s
      obtain ⟨⟨fl, h1, h2⟩, h3, h4⟩ := hs
      have h1' : m = bitset fl 4 := h1
      have h3' : fa = sm (fun i => flX X i) n := h3
      have h4' : sh = sm (fun i => if X.1 (3 + 2 * i) 0 = 0 then 0 else 1) n := h4
      show ∃ b, f_L_paths_L16 X (nI n) (f + 1) m fa sh (nI n) = some b ∧ _
      obtain ⟨r, X1, e1, hR1, hJ1, hnd⟩ := x_skips hR
      obtain ⟨X', e2, hR2, hJ2⟩ := m_paths2 (met := m) (fails := fa) (shots := sh) (needed := r) hI hn hJ1 hR1 (by
        rw [h1', ← bs_full n hn4]
        refine bitset_cg 4 (fun q hq => ?_)
        cases hz : fl q with
        | true => exact (decide_eq_true ((h2 q hq).mp hz).1).symm
        | false =>
          by_cases c : q < n
          · have := (h2 q hq).mpr ⟨c, pl_lt c⟩
            rw [hz] at this
            exact absurd this (by decide)
          · exact (decide_eq_false c).symm) (by
        rw [h3']
        exact (sm_to hn4 (fun i a b => fl_0 hA i a b)).symm) (by
        rw [h4']
        exact (sm_to hn4 (fun i a b => if_pos (sh_0 hA i a b))).symm) hnd
      rw [f_L_paths_L16, if_pos (Int32.le_refl _), e1, ob2_s, e2]
      exact ⟨_, rfl, rfl, hR2, hJ2⟩
    · obtain ⟨m, fa, sh⟩ := s
      obtain ⟨⟨fl, h1, h2⟩, h3, h4⟩ := hs
      have h1' : m = bitset fl 4 := h1
      have h3' : fa = sm (fun i => flX X i) i := h3
      have h4' : sh = sm (fun i => if X.1 (3 + 2 * i) 0 = 0 then 0 else 1) i := h4
      obtain ⟨t1, t2, t3⟩ := htr i hi
      have hL := hp i hi
      have hSi := hSI.1 i (by omega)
      have td := td_no hL hSi
      show (∃ b, f_L_paths_L16 X (nI n) (f + 1) m fa sh (nI i) = some b ∧ _) ∨ (∃ s', _ ∧ f_L_paths_L16 X (nI n) (f + 1) m fa sh (nI i) = _)
      rw [f_L_paths_L16, if_neg (show ¬ nI n ≤ nI i from nI_ge hi (by omega)), t3, ob1_s, lk_p5 hn hi, ob1_s, lk_p6 hn hi, ob1_s, lk_p4 hn hi, ob1_s, lk_p8 hn hi, ob1_s, lt1_s, lk_p13 hn hi, ob1_s, lt1_s, show f_X10_told (nI i) 0 X = some (tdX X i 0) from lk_t hn hi (q := 0) (by decide), ob1_s, ob1_if, lt1_s, ob1_if, ob1_if]
      have eref : (if rfF X i = (-2000000005 : Int32) then (1 : Int32) else 0) = (if rfB X i = (-2000000005 : Int32) then (1 : Int32) else 0) := by
        unfold rfF rfB
        rcases hL.ref with ⟨q, -⟩ | ⟨q, z1, z2, z3, -, t7⟩
        · rw [if_pos q, if_pos q]
        · rw [if_neg q, if_neg q, if_neg (by rw [← z2]; exact z1), if_neg (tm_no hL.1.2.2.2.1 hL.1.2.2.2.2 t7.1)]
      rw [if_pos eref, p175 hn hi t1 t2 hL hSi]
      have fin : (∃ s' : Int32 × Int32 × Int32, ((∃ fl : Nat → Bool, s'.1 = bitset fl 4 ∧ ∀ q, q < 4 → (fl q = true ↔ q < n ∧ plX X n q < i + 1)) ∧ s'.2.1 = sm (fun i => flX X i) (i + 1) ∧ s'.2.2 = sm (fun i => if X.1 (3 + 2 * i) 0 = 0 then 0 else 1) (i + 1)) ∧ f_L_paths_L16 X (nI n) f (m ||| (1 : Int32) <<< (nI (tr i) &&& 31)) (fa + flX X i) (sh + if tdX X i 0 = (-2000000005 : Int32) then 0 else 1) (nI i + 1) = f_L_paths_L16 X (nI n) f s'.1 s'.2.1 s'.2.2 (nI (i + 1))) := by
        refine ⟨(m ||| (1 : Int32) <<< (nI (tr i) &&& 31), fa + flX X i, sh + if tdX X i 0 = (-2000000005 : Int32) then 0 else 1), ⟨⟨fun q => fl q || decide (q = tr i), ?_, fun q hq => ?_⟩, ?_, ?_⟩, by rw [nI_succ]⟩
        · show m ||| _ = _
          rw [h1', bs_or (by omega)]
        · show (fl q || decide (q = tr i)) = true ↔ _
          rw [Bool.or_eq_true, h2 q hq, decide_eq_true_iff]
          constructor
          · rintro (⟨a, b⟩ | rfl)
            · exact ⟨a, by omega⟩
            · exact ⟨t1, by omega⟩
          · rintro ⟨a, b⟩
            by_cases c : plX X n q < i
            · exact Or.inl ⟨a, c⟩
            · exact Or.inr (pl_inj (X := X) a t1 (by omega))
        · show fa + flX X i = sm (fun i => flX X i) i + flX X i
          rw [h3']
        · show sh + _ = sm (fun i => if X.1 (3 + 2 * i) 0 = 0 then (0 : Int32) else 1) i + (if X.1 (3 + 2 * i) 0 = 0 then (0 : Int32) else 1)
          rw [h4']
          rcases td with ⟨q, q2, -⟩ | ⟨q, q2, -⟩
          · rw [if_pos q, if_pos q2]
          · rw [if_neg q, if_neg q2]
      by_cases c : rfF X i = (-2000000005 : Int32)
      · rw [if_pos c]
        exact Or.inr fin
      · rw [if_neg c]
        have hq5 : ¬ X.1 (2 + 2 * i) 5 = 0 := fun z => c (if_pos z)
        have eF : rfF X i = X.1 (2 + 2 * i) 6 := if_neg hq5
        have eB : rfB X i = X.1 (2 + 2 * i) 7 := if_neg hq5
        rcases hL.ref with ⟨q, -⟩ | ⟨-, -, -, -, t6, t7⟩
        · exact absurd q hq5
        rcases lk_sound hn hi hL with ⟨q, -⟩ | ⟨-, v, q2, q3⟩
        · exact absurd q hq5
        have n6 : ¬ rfF X i < X.1 (2 + 2 * i) 4 + 1000 := by
          rw [eF, i_lt]
          have := t6.1
          rw [i_le] at this
          omega
        have n7 : ¬ rfB X i < X.1 (2 + 2 * i) 4 + 1000 := by
          rw [eB, i_lt]
          have := t7.1
          rw [i_le] at this
          omega
        rw [if_neg n6, if_neg n7, q2, ob1_s, if_neg q3]
        exact Or.inr fin
  
  obtain ⟨b, hb, hb1, hb2, hb3⟩ := hmain
  obtain ⟨r, X'⟩ := b
  obtain rfl : r = 1 := hb1
  refine ⟨X', ?_, hI.jd hb2 hb3, hb3⟩
  unfold f_L_paths
  rw [lk_0, ob1_s, hx]
  exact hb


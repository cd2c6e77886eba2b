/-! P33, 10: the law's look at the rounds, statistics, volumes and factors -/
theorem si_bt {φ : Int32 → Int} {g : Nat → Int32} {a b : Int} : ∀ m : Nat, (∀ k, k < m → a ≤ φ (g k) ∧ φ (g k) ≤ b) → a * m ≤ si φ g m ∧ si φ g m ≤ b * m := by
  intro m
  induction m with
  | zero => intro _; show a * ((0 : Nat) : Int) ≤ 0 ∧ 0 ≤ b * ((0 : Nat) : Int); simp
  | succ m ih =>
    intro h
    obtain ⟨i1, i2⟩ := ih (fun k hk => h k (by omega))
    obtain ⟨q1, q2⟩ := h m (by omega)
    show a * ((m + 1 : Nat) : Int) ≤ si φ g m + φ (g m) ∧ si φ g m + φ (g m) ≤ b * ((m + 1 : Nat) : Int)
    rw [Int.natCast_succ, Int.mul_add, Int.mul_add]
    omega
theorem sx_ge {n : Nat} {R : Nat → Int32} {φ : Int32 → Int} (h : ∀ x, 0 ≤ φ x) {i : Nat} (hi : i < n) (hm : ¬ R i = -2000000005) : ∀ k : Nat, i < k → φ (R i) ≤ sx n R φ k := by
  have pos : ∀ k : Nat, 0 ≤ sx n R φ k := fun k => by
    induction k with
    | zero => exact Int.le_refl 0
    | succ k ih =>
      show 0 ≤ sx n R φ k + _
      by_cases c : k < n ∧ ¬ R k = -2000000005
      · rw [if_pos c]; have := h (R k); omega
      · rw [if_neg c]; omega
  intro k
  induction k with
  | zero => intro hk; exact absurd hk (by omega)
  | succ k ih =>
    intro hk
    show φ (R i) ≤ sx n R φ k + _
    rcases Nat.eq_or_lt_of_le (show i ≤ k by omega) with e | e
    · subst e
      rw [if_pos ⟨hi, hm⟩]
      have := pos i
      omega
    · have := ih e
      by_cases c : k < n ∧ ¬ R k = -2000000005
      · rw [if_pos c]; have := h (R k); omega
      · rw [if_neg c]; omega
theorem si_ex {φ : Int32 → Int} {g : Nat → Int32} : ∀ m : Nat, ¬ si φ g m = 0 → ∃ k, k < m ∧ ¬ φ (g k) = 0 := by
  intro m
  induction m with
  | zero => intro h; exact absurd rfl h
  | succ m ih =>
    intro h
    by_cases c : φ (g m) = 0
    · obtain ⟨k, h1, h2⟩ := ih (fun q => h (by show si φ g m + φ (g m) = 0; omega))
      exact ⟨k, by omega, h2⟩
    · exact ⟨m, by omega, c⟩
set_option maxHeartbeats 1000000 in
theorem x_stat {X Y : Mm} {n : Nat} (h : Rel X Y) (hN : NR X n) : ∃ (m : Nat) (G : Nat → Int32), m ≤ n ∧ (∀ k, k < m → ∃ i, i < n ∧ ¬ rv X i = -2000000005 ∧ rv X i = G k) ∧ (∀ i, i < n → ¬ rv X i = -2000000005 → ∃ k, k < m ∧ G k = rv X i) ∧ (∀ j k, j ≤ k → k < m → (G j).toInt ≤ (G k).toInt) ∧
    (m : Int) = sx n (rv X) (fun _ => 1) n ∧ f_X10_statistic 0 X = some (nI m) ∧ (m = 0 → ∀ q, 1 ≤ q → q < 5 → f_X10_statistic (nI q) X = some (-2000000005)) ∧
    (0 < m → f_X10_statistic 1 X = some (G 0) ∧ f_X10_statistic 2 X = some (G (m - 1)) ∧ (∃ a, f_X10_statistic 3 X = some a ∧ (G 0).toInt ≤ a.toInt ∧ a.toInt ≤ (G (m - 1)).toInt) ∧ ∃ a, f_X10_statistic 4 X = some a ∧ (G 0).toInt ≤ a.toInt ∧ a.toInt ≤ (G (m - 1)).toInt) := by
  obtain ⟨-, -, -, ⟨n', hn, hx, hy, hR, hb0⟩, -⟩ := h.pg
  have hx' : X.1 14 1 = nI n' := hx
  obtain rfl : n' = n := (nI_eq (by omega) (by have := hN.1; omega)).mp (hx'.symm.trans hN.2)
  have hb : ∀ k, k < n' → rv X k = -2000000005 ∨ -1000000 ≤ rv X k ∧ rv X k ≤ 1000000 := hb0
  obtain ⟨m, N, ey, hm, hs, hsi, -, -⟩ := y_lay1 (Y := Y) (R := rv X) hn hy (fun k hk => hR k hk 0 (by decide))
  have hcnt : f_X6_measuredCount X = some (nI m) := by
    obtain ⟨r, r1, r2⟩ := x_mc hn hx
    rw [sx_12 hn, ← hsi, si_one] at r2
    rw [r1, show r = nI m from by rw [i_eq, r2, nI_toInt (by omega)]]
  have eb1 : (-1000000 : Int32).toInt = -1000000 := rfl
  have eb2 : (1000000 : Int32).toInt = 1000000 := rfl
  have ind : ∀ v : Int32, ∀ x : Int32, 0 ≤ (fun x => if x = v then (1 : Int) else 0) x := fun v x => by
    show 0 ≤ (if x = v then (1 : Int) else 0)
    by_cases c : x = v
    · rw [if_pos c]; decide
    · rw [if_neg c]; decide
  have hex : ∀ k, k < m → ∃ i, i < n' ∧ ¬ rv X i = -2000000005 ∧ rv X i = N.1 16 k := fun k hk => by
    have q := si_ge (φ := fun x => if x = N.1 16 k then 1 else 0) (g := N.1 16) (ind _) m k hk
    have q1 : (1 : Int) ≤ si (fun x => if x = N.1 16 k then 1 else 0) (N.1 16) m := by
      have e : (if N.1 16 k = N.1 16 k then (1 : Int) else 0) = 1 := if_pos rfl
      exact Int.le_trans (Int.le_of_eq e.symm) q
    rw [hsi] at q1
    obtain ⟨i, -, i2, i3, i4⟩ := sx_ex (n := n') (R := rv X) (φ := fun x => if x = N.1 16 k then 1 else 0) n' (by omega)
    refine ⟨i, i2, i3, ?_⟩
    by_cases c : rv X i = N.1 16 k
    · exact c
    · exact absurd (if_neg c) i4
  have hex2 : ∀ i, i < n' → ¬ rv X i = -2000000005 → ∃ k, k < m ∧ N.1 16 k = rv X i := fun i hi hmi => by
    have q := sx_ge (n := n') (R := rv X) (φ := fun x => if x = rv X i then 1 else 0) (ind _) hi hmi n' hi
    have q1 : (1 : Int) ≤ sx n' (rv X) (fun x => if x = rv X i then 1 else 0) n' := by
      have e : (if rv X i = rv X i then (1 : Int) else 0) = 1 := if_pos rfl
      exact Int.le_trans (Int.le_of_eq e.symm) q
    rw [← hsi] at q1
    obtain ⟨k, k1, k2⟩ := si_ex (φ := fun x => if x = rv X i then 1 else 0) (g := N.1 16) m (by omega)
    refine ⟨k, k1, ?_⟩
    by_cases c : N.1 16 k = rv X i
    · exact c
    · exact absurd (if_neg c) k2
  have hbd : ∀ k, k < m → -1000000 ≤ (N.1 16 k).toInt ∧ (N.1 16 k).toInt ≤ 1000000 := fun k hk => by
    obtain ⟨i, i1, i2, i3⟩ := hex k hk
    rw [← i3]
    rcases hb i i1 with q | q
    · exact absurd q i2
    · rw [i_le, i_le] at q; omega
  have hs' : ∀ j k, j ≤ k → k < m → (N.1 16 j).toInt ≤ (N.1 16 k).toInt := fun j k h1 h2 => (i_le _ _).mp (hs j k h1 h2)
  have rank : ∀ k, k < m → f_X6_ranked (nI k) X = some (N.1 16 k) := fun k hk => by
    have hw : (N.1 16 k - 1).toInt = (N.1 16 k).toInt - 1 := by
      have := hbd k hk
      have e1 : (1 : Int32).toInt = 1 := rfl
      exact fb_subI (by omega) (by omega)
    refine x_rank hn hx hb (hex k hk) ?_ ?_
    · rw [sx_12 hn, ← hsi, nI_toInt (by omega)]
      refine si_cap (fun x => le1_r) m (fun j h1 h2 => if_neg (fun q => ?_))
      have := hs k j h1 h2
      rw [i_le] at this q
      omega
    · rw [sx_12 hn, ← hsi, nI_toInt (by omega)]
      have := si_low (φ := le1 (N.1 16 k)) (g := N.1 16) (fun x => le1_r) m hk (fun j hj => if_pos (hs j k hj hk))
      omega
  have st : ∀ q, q < 5 → f_X10_isWithin (nI q) 0 4 X = some 1 := fun q hq => by
    unfold f_X10_isWithin
    rw [if_neg (nI_pos (by omega)), if_neg (show ¬ (4 : Int32) < nI q from nI_nlt (a := 4) (by omega) (by decide))]
  refine ⟨m, N.1 16, hm, hex, hex2, hs', by rw [← hsi, si_one], ?_, fun em q q1 q2 => ?_, fun em => ?_⟩
  · unfold f_X10_statistic
    rw [show f_X10_isWithin 0 0 4 X = some 1 from st 0 (by decide), ob1_s, if_neg one_0, hcnt, ob1_s, if_pos rfl]
  · subst em
    unfold f_X10_statistic
    rw [st q q2, ob1_s, if_neg one_0, hcnt, ob1_s, if_neg (nI_ne0 (by omega) (by omega)), if_pos (show nI 0 = (0 : Int32) from rfl)]
  have m0 : ¬ nI m = 0 := nI_ne0 em (by omega)
  have mp : nI m - (1 : Int32) = nI (m - 1) := nI_sub (b := 1) em
  have d1 : nI (m - 1) / (2 : Int32) = nI ((m - 1) / 2) := nI_div (b := 2) (by omega) (by decide) (by decide)
  have d2 : nI m / (2 : Int32) = nI (m / 2) := nI_div (b := 2) (by omega) (by decide) (by decide)
  refine ⟨?_, ?_, ?_, ?_⟩
  · unfold f_X10_statistic
    rw [show f_X10_isWithin 1 0 4 X = some 1 from st 1 (by decide), ob1_s, if_neg one_0, hcnt, ob1_s, if_neg (by decide), if_neg m0, if_pos rfl, show f_X6_ranked (0 : Int32) X = some (N.1 16 0) from rank 0 em, ob1_s]
  · unfold f_X10_statistic
    rw [show f_X10_isWithin 2 0 4 X = some 1 from st 2 (by decide), ob1_s, if_neg one_0, hcnt, ob1_s, if_neg (by decide), if_neg m0, if_neg (by decide), if_pos rfl, mp, rank (m - 1) (by omega), ob1_s]
  · obtain ⟨A, a1, a2, -⟩ := x_avg hn hx hb
    have n0 : ¬ Int32.toInt64 (nI m) = 0 := fun q => by
      have := congrArg Int64.toInt q
      rw [Int32.toInt_toInt64, nI_toInt (by omega)] at this
      have e : (0 : Int64).toInt = 0 := rfl
      omega
    have n1 : Int32.toInt64 (nI m) ≠ -1 := fun q => by
      have := congrArg Int64.toInt q
      rw [Int32.toInt_toInt64, nI_toInt (by omega)] at this
      have e : (-1 : Int64).toInt = -1 := rfl
      omega
    have bt := si_bt (φ := Int32.toInt) (g := N.1 16) (a := (N.1 16 0).toInt) (b := (N.1 16 (m - 1)).toInt) m (fun k hk => ⟨hs' 0 k (Nat.zero_le _) hk, hs' k (m - 1) (by omega) (by omega)⟩)
    have eA : (A / Int32.toInt64 (nI m)).toInt = (si Int32.toInt (N.1 16) m).tdiv m := by
      rw [Int64.toInt_div_of_ne_right _ _ n1, a2, sx_12 hn, ← hsi, Int32.toInt_toInt64, nI_toInt (by omega)]
    have tb := tdiv_ab (S := si Int32.toInt (N.1 16) m) (W := m) (by omega) bt.1 bt.2
    have b0 := hbd 0 em
    have b1 := hbd (m - 1) (by omega)
    refine ⟨Int64.toInt32 (A / Int32.toInt64 (nI m)), ?_, ?_⟩
    · unfold f_X10_statistic f_X6_average
      rw [show f_X10_isWithin 3 0 4 X = some 1 from st 3 (by decide), ob1_s, if_neg one_0, hcnt, ob1_s, if_neg (by decide), if_neg m0, if_neg (by decide), if_neg (by decide), if_pos rfl, a1, ob1_s, ob1_s, quot n0, ob1_s, ob1_s]
    · rw [Int64.toInt_toInt32, eA, fb_bmod (by omega) (by omega)]
      exact tb
  · have k1 : (m - 1) / 2 < m := by omega
    have k2 : m / 2 < m := by omega
    have b0 := hbd _ k1
    have b1 := hbd _ k2
    have o1 := hs' 0 ((m - 1) / 2) (Nat.zero_le _) k1
    have o2 := hs' ((m - 1) / 2) (m / 2) (by omega) k2
    have o3 := hs' (m / 2) (m - 1) (by omega) (by omega)
    refine ⟨(N.1 16 ((m - 1) / 2) + N.1 16 (m / 2)) / (2 : Int32), ?_, ?_⟩
    · unfold f_X10_statistic
      rw [show f_X10_isWithin 4 0 4 X = some 1 from st 4 (by decide), ob1_s, if_neg one_0, hcnt, ob1_s, if_neg (by decide), if_neg m0, if_neg (by decide), if_neg (by decide), if_neg (by decide), mp, d1, d2, rank _ k1, ob1_s, rank _ k2, ob1_s]
    · have e : ((N.1 16 ((m - 1) / 2) + N.1 16 (m / 2)) / (2 : Int32)).toInt = ((N.1 16 ((m - 1) / 2)).toInt + (N.1 16 (m / 2)).toInt).tdiv 2 := by
        rw [Int32.toInt_div_of_ne_right _ _ (by decide), fb_addI (by omega) (by omega)]
        rfl
      have tb := tdiv_ab (S := (N.1 16 ((m - 1) / 2)).toInt + (N.1 16 (m / 2)).toInt) (W := 2) (a := (N.1 16 ((m - 1) / 2)).toInt) (b := (N.1 16 (m / 2)).toInt) (by decide) (by omega) (by omega)
      rw [e]
      omega
theorem lk_factor {X Y : Mm} (h : Rel X Y) {x : Int32} (h1 : -100000 ≤ x.toInt) (h2 : x.toInt ≤ 100000) : ∃ r, f_X10_factor x X = some r ∧ f_X4_factorFor x X = some r ∧ 500 ≤ r.toInt ∧ r.toInt ≤ 1500 := by
  obtain ⟨-, ⟨nf, hF⟩, -⟩ := h.pg
  have u1 : (-1000000 : Int32).toInt = -1000000 := rfl
  have u2 : (1000000 : Int32).toInt = 1000000 := rfl
  have u3 : (-100000 : Int32).toInt = -100000 := rfl
  have u4 : (100000 : Int32).toInt = 100000 := rfl
  obtain ⟨r, r1, -, r3, r4⟩ := s_factorFor hF (x := x) (by rw [i_le]; omega) (by rw [i_le]; omega)
  rw [i_le] at r3 r4
  refine ⟨r, ?_, r1, r3, r4⟩
  unfold f_X10_factor f_X10_isWithin
  rw [if_neg (show ¬ x < -100000 by rw [i_lt]; omega), if_neg (show ¬ (100000 : Int32) < x by rw [i_lt]; omega), ob1_s, if_neg one_0, r1, ob1_s]
theorem lk_factorN {X Y : Mm} (h : Rel X Y) {x : Int32} (h1 : -100000 ≤ x.toInt) (h2 : x.toInt ≤ 100000) : f_X10_factor (-x) X = f_X10_factor x X := by
  have en : (-x).toInt = -x.toInt := fb_negI (by omega)
  obtain ⟨r, r1, r2, -⟩ := lk_factor h h1 h2
  obtain ⟨s, s1, s2, -⟩ := lk_factor h (x := -x) (by omega) (by omega)
  rw [ff_abs (jabs_neg (by omega) (by omega)), r2] at s2
  rw [r1, s1, s2]
theorem L422_s {X Y : Mm} (h : Rel X Y) {f : Nat} {v : Int32} (h0 : 0 ≤ v.toInt) (h1 : v.toInt < 9000) : f_L_figures_L422 X (f + 1) 1 v = f_L_figures_L422 X f 1 (v + 1700) := by
  obtain ⟨r, r1, -, r3, r4⟩ := lk_factor h (x := v) (by omega) (by omega)
  have e9 : (9000 : Int32).toInt = 9000 := rfl
  have e5 : (500 : Int32).toInt = 500 := rfl
  have e15 : (1500 : Int32).toInt = 1500 := rfl
  rw [f_L_figures_L422, if_neg (show ¬ (9000 : Int32) ≤ v by rw [i_le]; omega), if_neg one_0, lk_factorN h (by omega) (by omega), r1, ob1_s, if_neg (show ¬ r < 500 by rw [i_lt]; omega), ob1_s, if_neg (show ¬ (1500 : Int32) < r by rw [i_lt]; omega), ob1_s, ob1_s, if_pos rfl, ob1_s, lt1_s]
theorem L422_all {X Y : Mm} (h : Rel X Y) : f_L_figures_L422 X 1000 1 0 = some 1 := by
  rw [L422_s h (f := 999) (v := 0) (by decide) (by decide), L422_s h (f := 998) (v := 0 + 1700) (by decide) (by decide), L422_s h (f := 997) (v := 0 + 1700 + 1700) (by decide) (by decide), L422_s h (f := 996) (v := 0 + 1700 + 1700 + 1700) (by decide) (by decide), L422_s h (f := 995) (v := 0 + 1700 + 1700 + 1700 + 1700) (by decide) (by decide), L422_s h (f := 994) (v := 0 + 1700 + 1700 + 1700 + 1700 + 1700) (by decide) (by decide), f_L_figures_L422, if_pos (by decide)]
theorem L337_s {X : Mm} {x1 x2 x3 r : Int32} {f q : Nat} (h1 : 1 ≤ q) (h2 : q < 5) (hr : f_X10_statistic (nI q) X = some r) (hc : (x1 = 0 ∧ r = -2000000005) ∨ (¬ x1 = 0 ∧ x2.toInt ≤ r.toInt ∧ r.toInt ≤ x3.toInt ∧ (q = 1 → r = x2) ∧ (q = 2 → r = x3))) : f_L_figures_L337 X x1 x2 x3 (f + 1) 1 (nI q) = f_L_figures_L337 X x1 x2 x3 f 1 (nI (q + 1)) := by
  rw [f_L_figures_L337, if_neg (show ¬ (5 : Int32) ≤ nI q from nI_ge (b := 5) (by omega) (by decide)), hr, ob1_s, if_neg one_0, nI_1]
  have key : (if x1 = (0 : Int32) then (if r = (-2000000005 : Int32) then some (1 : Int32) else some 0) else (if r < x2 then some 0 else (if x3 < r then some 0 else (if nI q = (1 : Int32) then (if r = x2 then f_L_figures_J394 x3 (nI q) r else some 0) else f_L_figures_J394 x3 (nI q) r)))) = some 1 := by
    rcases hc with ⟨a, b⟩ | ⟨a, b1, b2, b3, b4⟩
    · rw [if_pos a, if_pos b]
    · have j394 : f_L_figures_J394 x3 (nI q) r = some 1 := by
        unfold f_L_figures_J394
        by_cases c : nI q = (2 : Int32)
        · rw [if_pos c, if_pos (b4 ((nI_eq (by omega) (by decide)).mp (show nI q = nI 2 from c)))]
        · rw [if_neg c]
      rw [if_neg a, if_neg (show ¬ r < x2 by rw [i_lt]; omega), if_neg (show ¬ x3 < r by rw [i_lt]; omega), j394]
      by_cases c : nI q = (1 : Int32)
      · rw [if_pos c, if_pos (b3 ((nI_eq (by omega) (by decide)).mp (show nI q = nI 1 from c)))]
      · rw [if_neg c]
  rw [key, ob1_s, lt1_s]
theorem p143 {X : Mm} {n k : Nat} {x1 x2 x3 : Int32} {K : Int32 → Int32 → Int32 → Int32 → Option Int32} (hN : NR X n) (hk : k < n) (hr : 0 ≤ (X.1 (16 + k) 5).toInt ∧ (X.1 (16 + k) 5).toInt ≤ 8) :
    f_L_figures_J143 X x1 x2 x3 (nI k) (rv X k) K = K (x1 + if rv X k = -2000000005 then 0 else 1) (if rv X k = -2000000005 then x2 else if x1 = 0 then rv X k else if x2 ≤ rv X k then x2 else rv X k) (if rv X k = -2000000005 then x3 else if x1 = 0 then rv X k else if rv X k ≤ x3 then x3 else rv X k) (nI k + 1) := by
  have e0 : (0 : Int32).toInt = 0 := rfl
  have e8 : (8 : Int32).toInt = 8 := rfl
  unfold f_L_figures_J143 f_L_figures_J189 f_L_figures_J184 f_L_figures_J213 f_L_figures_J208
  rw [show f_X10_round (nI k) 5 X = some (X.1 (16 + k) 5) from lk_r (p := 5) hN hk (by decide), ob1_s, if_neg (show ¬ X.1 (16 + k) 5 < 0 by rw [i_lt]; omega), ob1_s, if_pos (show X.1 (16 + k) 5 ≤ 8 by rw [i_le]; omega)]
  by_cases c : rv X k = -2000000005
  · simp only [if_pos c, ob1_s, lt1_s]
  · simp only [if_neg c]
    by_cases d : x1 = 0
    · simp only [if_pos d, ob1_s, lt1_s]
    · simp only [if_neg d]
      by_cases a : x2 ≤ rv X k
      · by_cases b : rv X k ≤ x3
        · simp only [if_pos a, if_pos b, ob1_s, lt1_s]
        · simp only [if_pos a, if_neg b, ob1_s, lt1_s]
      · by_cases b : rv X k ≤ x3
        · simp only [if_neg a, if_pos b, ob1_s, lt1_s]
        · simp only [if_neg a, if_neg b, ob1_s, lt1_s]
set_option maxHeartbeats 1000000 in
theorem m_figures {X : Mm} {B : Nat} (hI : Inv B X) (hB : B ≤ 1000000) : f_L_figures X = some 1 := by
  obtain ⟨⟨Y, hR⟩, hSI, -⟩ := id hI
  rw [vI_0] at hSI
  obtain ⟨-, hrounds, ⟨l0, l1, l2⟩, ⟨v0, v1⟩, v2, v3⟩ := hSI
  obtain ⟨-, -, -, ⟨n, hn, hx, -⟩, -⟩ := hR.pg
  have hx' : X.1 14 1 = nI n := hx
  have hN : NR X n := ⟨hn, hx'⟩
  obtain ⟨c1, c2⟩ := hrounds n hx' hn
  obtain ⟨m, G, g1, g2, g3, g4, g5, g6, g7, g8⟩ := x_stat hR hN
  have o0 : (0 : Int32).toInt = 0 := rfl
  have o1 : (1 : Int32).toInt = 1 := rfl
  have hmain : ∃ b, f_L_figures_L16 X (nI n) 1000 (0 : Int32) (0 : Int32) (0 : Int32) (0 : Int32) = some b ∧ b = 1 := by
    refine lpUp (L := fun f x (s : Int32 × Int32 × Int32) => f_L_figures_L16 X (nI n) f s.1 s.2.1 s.2.2 x) n (fun k s => (s.1.toInt = sx n (rv X) (fun _ => 1) k ∧ 0 ≤ s.1.toInt ∧ s.1.toInt ≤ k) ∧ ((s.1.toInt = 0 ∧ ∀ i, i < k → rv X i = -2000000005) ∨ (¬ s.1.toInt = 0 ∧ (∃ i, i < k ∧ ¬ rv X i = -2000000005 ∧ rv X i = s.2.1) ∧ (∃ i, i < k ∧ ¬ rv X i = -2000000005 ∧ rv X i = s.2.2) ∧ ∀ i, i < k → ¬ rv X i = -2000000005 → s.2.1.toInt ≤ (rv X i).toInt ∧ (rv X i).toInt ≤ s.2.2.toInt))) (fun b => b = 1) (fun f s hs => ?_) (fun f k s hk hs => ?_) (by omega) (s := ((0 : Int32), (0 : Int32), (0 : Int32))) ⟨⟨rfl, by decide, by decide⟩, Or.inl ⟨rfl, fun i hi => absurd hi (by omega)⟩⟩
    · obtain ⟨a, lo, hi⟩ := s
      obtain ⟨⟨s1, s2, s3⟩, s4⟩ := hs
      have s1' : a.toInt = sx n (rv X) (fun _ => 1) n := s1
      have s4' : (a.toInt = 0 ∧ ∀ i, i < n → rv X i = -2000000005) ∨ (¬ a.toInt = 0 ∧ (∃ i, i < n ∧ ¬ rv X i = -2000000005 ∧ rv X i = lo) ∧ (∃ i, i < n ∧ ¬ rv X i = -2000000005 ∧ rv X i = hi) ∧ ∀ i, i < n → ¬ rv X i = -2000000005 → lo.toInt ≤ (rv X i).toInt ∧ (rv X i).toInt ≤ hi.toInt) := s4
      have ea : nI m = a := by rw [i_eq, s1', ← g5, nI_toInt (by omega)]
      refine ⟨1, ?_, rfl⟩
      show f_L_figures_L16 X (nI n) (f + 1) a lo hi (nI n) = some 1
      have e12 : ¬ (12 : Int32) < nI n := nI_nlt (a := 12) hn (by decide)
      have z8 : ¬ X.2 0 8 < 0 := by rw [j_lt, show (0 : Int64).toInt = 0 from rfl]; omega
      have z9 : ¬ X.2 0 9 < 0 := by rw [j_lt, show (0 : Int64).toInt = 0 from rfl]; omega
      have z3 : ¬ X.1 0 6 < nI n := by rw [i_lt, nI_toInt (by omega)]; omega
      have z4 : ¬ X.1 0 6 < X.1 0 7 := by rw [i_lt]; omega
      rw [f_L_figures_L16, if_pos (Int32.le_refl _), g6, ob1_s, if_pos ea, lk_rn hN, ob1_s, if_pos rfl, lk_v0, ob1_s, if_neg z8, lk_v1, ob1_s, if_neg z9, lk_v2, ob1_s, ob1_s, ob1_s, if_pos rfl, if_neg e12, lk_3, ob1_s, if_neg z3, lk_4, ob1_s, ob1_s, if_neg z4, ob1_s]
      have hL : f_L_figures_L337 X a lo hi 1000 1 1 = some 1 := by
        have st : ∀ (f q : Nat), 1 ≤ q → q < 5 → f_L_figures_L337 X a lo hi (f + 1) 1 (nI q) = f_L_figures_L337 X a lo hi f 1 (nI (q + 1)) := fun f q q1 q2 => by
          rcases s4' with ⟨a0, -⟩ | ⟨a0, ⟨i, i1, i2, i3⟩, ⟨j, j1, j2, j3⟩, hall⟩
          · have em : m = 0 := by
              have := nI_toInt (n := m) (by omega)
              rw [ea] at this
              omega
            exact L337_s q1 q2 (g7 em q q1 q2) (Or.inl ⟨by rw [i_eq]; exact a0, rfl⟩)
          · have em : 0 < m := by
              have := nI_toInt (n := m) (by omega)
              rw [ea] at this
              omega
            have an : ¬ a = 0 := fun z => a0 (by rw [z]; rfl)
            obtain ⟨k, k1, k2⟩ := g3 i i1 i2
            obtain ⟨k', k1', k2'⟩ := g3 j j1 j2
            obtain ⟨u, u1, u2, u3⟩ := g2 0 em
            obtain ⟨w, w1, w2, w3⟩ := g2 (m - 1) (by omega)
            have eG0 : G 0 = lo := by
              rw [i_eq]
              have h1 := g4 0 k (Nat.zero_le _) k1
              have h2 := (hall u u1 u2).1
              rw [k2, i3] at h1
              rw [u3] at h2
              omega
            have eG1 : G (m - 1) = hi := by
              rw [i_eq]
              have h1 := g4 k' (m - 1) (by omega) (by omega)
              have h2 := (hall w w1 w2).2
              rw [k2', j3] at h1
              rw [w3] at h2
              omega
            have h01 := g4 0 (m - 1) (Nat.zero_le _) (by omega)
            rw [eG0, eG1] at h01
            obtain ⟨t1, t2, ⟨b3, t3, t31, t32⟩, ⟨b4, t4, t41, t42⟩⟩ := g8 em
            rw [eG0] at t1 t31 t41
            rw [eG1] at t2 t32 t42
            have : q = 1 ∨ q = 2 ∨ q = 3 ∨ q = 4 := by omega
            rcases this with rfl | rfl | rfl | rfl
            · exact L337_s q1 q2 t1 (Or.inr ⟨an, Int.le_refl _, h01, fun _ => rfl, fun z => absurd z (by decide)⟩)
            · exact L337_s q1 q2 t2 (Or.inr ⟨an, h01, Int.le_refl _, fun z => absurd z (by decide), fun _ => rfl⟩)
            · exact L337_s q1 q2 t3 (Or.inr ⟨an, t31, t32, fun z => absurd z (by decide), fun z => absurd z (by decide)⟩)
            · exact L337_s q1 q2 t4 (Or.inr ⟨an, t41, t42, fun z => absurd z (by decide), fun z => absurd z (by decide)⟩)
        rw [show (1 : Int32) = nI 1 from rfl, show (1000 : Nat) = 999 + 1 from rfl]
        have h1 := st 999 1 (by decide) (by decide)
        have h2 := st 998 2 (by decide) (by decide)
        have h3 := st 997 3 (by decide) (by decide)
        have h4 := st 996 4 (by decide) (by decide)
        refine h1.trans (h2.trans (h3.trans (h4.trans ?_)))
        rw [show (996 : Nat) = 995 + 1 from rfl, f_L_figures_L337, if_pos (by decide)]
        rfl
      rw [hL, ob1_s, L422_all hR, ob1_s, chk_p (by decide)]
    · obtain ⟨a, lo, hi⟩ := s
      obtain ⟨⟨s1, s2, s3⟩, s4⟩ := hs
      have s1' : a.toInt = sx n (rv X) (fun _ => 1) k := s1
      have s2' : 0 ≤ a.toInt := s2
      have s3' : a.toInt ≤ k := s3
      have s4' : (a.toInt = 0 ∧ ∀ i, i < k → rv X i = -2000000005) ∨ (¬ a.toInt = 0 ∧ (∃ i, i < k ∧ ¬ rv X i = -2000000005 ∧ rv X i = lo) ∧ (∃ i, i < k ∧ ¬ rv X i = -2000000005 ∧ rv X i = hi) ∧ ∀ i, i < k → ¬ rv X i = -2000000005 → lo.toInt ≤ (rv X i).toInt ∧ (rv X i).toInt ≤ hi.toInt) := s4
      obtain ⟨sr, sr5⟩ := c2 k hk
      have sr' : (rv X k = -2000000005 ∧ X.1 (16 + k) 1 = -2000000005 ∧ X.1 (16 + k) 2 = 0 ∧ X.1 (16 + k) 3 = 0 ∧ X.1 (16 + k) 4 = 0) ∨ (¬ rv X k = -2000000005 ∧ ¬ X.1 (16 + k) 1 = -2000000005 ∧ ¬ X.1 (16 + k) 2 = 0 ∧ X.1 (16 + k) 3 &&& (X.1 (16 + k) 2 ^^^ (-1)) = 0 ∧ X.1 (16 + k) 4 &&& X.1 (16 + k) 2 = 0) := sr
      show (∃ b, f_L_figures_L16 X (nI n) (f + 1) a lo hi (nI k) = some b ∧ _) ∨ (∃ s', _ ∧ f_L_figures_L16 X (nI n) (f + 1) a lo hi (nI k) = _)
      rw [f_L_figures_L16, if_neg (show ¬ nI n ≤ nI k from nI_ge hk (by omega)), show f_X10_round (nI k) 0 X = some (rv X k) from lk_r (p := 0) hN hk (by decide), ob1_s, show f_X10_round (nI k) 2 X = some (X.1 (16 + k) 2) from lk_r (p := 2) hN hk (by decide), ob1_s, ob1_if, ob1_if, show f_X10_round (nI k) 1 X = some (X.1 (16 + k) 1) from lk_r (p := 1) hN hk (by decide), show f_X10_round (nI k) 3 X = some (X.1 (16 + k) 3) from lk_r (p := 3) hN hk (by decide), show f_X10_round (nI k) 4 X = some (X.1 (16 + k) 4) from lk_r (p := 4) hN hk (by decide), p143 hN hk sr5]
      have es : sx n (rv X) (fun _ => 1) (k + 1) = sx n (rv X) (fun _ => 1) k + (if k < n ∧ ¬ rv X k = -2000000005 then 1 else 0) := rfl
      rcases sr' with ⟨r0, r1, r2, r3, r4⟩ | ⟨r0, r1, r2, r3, r4⟩
      · rw [if_pos r0, if_pos r2, if_pos rfl, ob1_if, ob1_s, ob1_if, if_pos r0, if_pos r1, if_pos rfl, ob1_s, r3, Int32.zero_and, if_pos rfl, ob1_s, r4, Int32.zero_and, if_pos rfl, ob1_s, if_pos rfl]
        simp only [if_pos r0]
        refine Or.inr ⟨(a, lo, hi), ⟨⟨?_, s2', ?_⟩, ?_⟩, by rw [Int32.add_zero, nI_succ]⟩
        · show a.toInt = _
          rw [es, if_neg (fun z => z.2 r0), Int.add_zero, s1']
        · show a.toInt ≤ _
          omega
        · rcases s4' with ⟨a0, ha⟩ | ⟨a0, ⟨i, i1, i2⟩, ⟨j, j1, j2⟩, hall⟩
          · refine Or.inl ⟨a0, fun i hi => ?_⟩
            rcases Nat.eq_or_lt_of_le (show i ≤ k by omega) with e | e
            · subst e; exact r0
            · exact ha i e
          · refine Or.inr ⟨a0, ⟨i, by omega, i2⟩, ⟨j, by omega, j2⟩, fun q hq hmq => ?_⟩
            rcases Nat.eq_or_lt_of_le (show q ≤ k by omega) with e | e
            · subst e; exact absurd r0 hmq
            · exact hall q e hmq
      · rw [if_neg r0, if_neg r2, if_pos rfl, ob1_if, ob1_s, ob1_if, if_neg r0, if_neg r1, if_pos rfl, ob1_s, if_pos r3, ob1_s, if_pos r4]
        simp only [if_neg r0]
        have ea : (a + 1).toInt = a.toInt + 1 := fb_addI (by omega) (by omega)
        refine Or.inr ⟨(a + 1, (if a = 0 then rv X k else if lo ≤ rv X k then lo else rv X k), (if a = 0 then rv X k else if rv X k ≤ hi then hi else rv X k)), ⟨⟨?_, ?_, ?_⟩, Or.inr ⟨?_, ?_⟩⟩, by rw [nI_succ]⟩
        · show (a + 1).toInt = _
          rw [es, if_pos ⟨hk, r0⟩, ea, s1']
        · show 0 ≤ (a + 1).toInt
          omega
        · show (a + 1).toInt ≤ _
          rw [ea]
          omega
        · show ¬ (a + 1).toInt = 0
          omega
        · show (∃ i, i < k + 1 ∧ ¬ rv X i = -2000000005 ∧ rv X i = (if a = 0 then rv X k else if lo ≤ rv X k then lo else rv X k)) ∧ (∃ i, i < k + 1 ∧ ¬ rv X i = -2000000005 ∧ rv X i = (if a = 0 then rv X k else if rv X k ≤ hi then hi else rv X k)) ∧ ∀ i, i < k + 1 → ¬ rv X i = -2000000005 → (if a = 0 then rv X k else if lo ≤ rv X k then lo else rv X k).toInt ≤ (rv X i).toInt ∧ (rv X i).toInt ≤ (if a = 0 then rv X k else if rv X k ≤ hi then hi else rv X k).toInt
          rcases s4' with ⟨a0, ha⟩ | ⟨a0, ⟨i, i1, i2, i3⟩, ⟨j, j1, j2, j3⟩, hall⟩
          · have az : a = 0 := by rw [i_eq]; exact a0
            rw [if_pos az, if_pos az]
            refine ⟨⟨k, by omega, r0, rfl⟩, ⟨k, by omega, r0, rfl⟩, fun q hq hmq => ?_⟩
            rcases Nat.eq_or_lt_of_le (show q ≤ k by omega) with e | e
            · subst e; exact ⟨Int.le_refl _, Int.le_refl _⟩
            · exact absurd (ha q e) hmq
          · have az : ¬ a = 0 := fun z => a0 (by rw [z]; rfl)
            rw [if_neg az, if_neg az]
            refine ⟨?_, ?_, fun q hq hmq => ⟨?_, ?_⟩⟩
            · by_cases c : lo ≤ rv X k
              · rw [if_pos c]; exact ⟨i, by omega, i2, i3⟩
              · rw [if_neg c]; exact ⟨k, by omega, r0, rfl⟩
            · by_cases c : rv X k ≤ hi
              · rw [if_pos c]; exact ⟨j, by omega, j2, j3⟩
              · rw [if_neg c]; exact ⟨k, by omega, r0, rfl⟩
            · by_cases c : lo ≤ rv X k
              · rw [if_pos c]
                rw [i_le] at c
                rcases Nat.eq_or_lt_of_le (show q ≤ k by omega) with e | e
                · subst e; exact c
                · exact (hall q e hmq).1
              · rw [if_neg c]
                rw [i_le] at c
                rcases Nat.eq_or_lt_of_le (show q ≤ k by omega) with e | e
                · subst e; exact Int.le_refl _
                · have := (hall q e hmq).1; omega
            · by_cases c : rv X k ≤ hi
              · rw [if_pos c]
                rw [i_le] at c
                rcases Nat.eq_or_lt_of_le (show q ≤ k by omega) with e | e
                · subst e; exact c
                · exact (hall q e hmq).2
              · rw [if_neg c]
                rw [i_le] at c
                rcases Nat.eq_or_lt_of_le (show q ≤ k by omega) with e | e
                · subst e; exact Int.le_refl _
                · have := (hall q e hmq).2; omega
  obtain ⟨b, hb, rfl⟩ := hmain
  unfold f_L_figures
  rw [lk_5, hx', ob1_s]
  exact hb

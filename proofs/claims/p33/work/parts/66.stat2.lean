/-! STATISTIC -/
theorem Rel_keep {X Y X' Y' : Mm} (hx : ∀ k, k < 229 ∨ k = 230 ∨ k = 231 → X'.1 k = X.1 k ∧ X'.2 k = X.2 k) (hy0 : Y'.1 0 4 = Y.1 0 4 ∧ Y'.1 0 9 = Y.1 0 9) (hy : ∀ a, a = 1 ∨ a = 3 ∨ a = 5 ∨ a = 7 ∨ a = 8 → Y'.1 a = Y.1 a) (hy2 : ∀ a, a = 2 ∨ a = 4 ∨ a = 6 → Y'.2 a = Y.2 a) (h : Rel X Y) : Rel X' Y' := by
  refine Rel.of ?_ (Rest_keep (fun k h1 h2 => hx k (by omega)) hy0 (fun a ha => hy a (by omega)) (fun a ha => hy2 a (by omega)) h.rest)
  refine PG_congr (fun o j ho _ _ => congrFun (hx o (by omega)).1 j) ⟨congrFun (hx 0 (by omega)).2 8, congrFun (hx 0 (by omega)).2 9⟩ (fun k _ => congrFun (hy 1 (by decide)) k) ⟨congrFun (hy2 2 (by decide)) 0, congrFun (hy2 2 (by decide)) 1⟩ h.pg
theorem si_ge {φ : Int32 → Int} {g : Nat → Int32} (h : ∀ x, 0 ≤ φ x) : ∀ m k : Nat, k < m → φ (g k) ≤ si φ g m := by
  intro m
  have pos : ∀ m : Nat, 0 ≤ si φ g m := fun m => by
    induction m with
    | zero => exact Int.le_refl 0
    | succ m ih =>
      show 0 ≤ si φ g m + φ (g m)
      have := h (g m)
      omega
  induction m with
  | zero => intro k hk; omega
  | succ m ih =>
    intro k hk
    show φ (g k) ≤ si φ g m + φ (g m)
    rcases Nat.eq_or_lt_of_le (show k ≤ m by omega) with e | e
    · subst e
      have := pos k
      omega
    · have := ih k e
      have := h (g m)
      omega
theorem nI_div {a b : Nat} (ha : a < 2 ^ 31) (hb : b < 2 ^ 31) (h0 : 0 < b) : nI a / nI b = nI (a / b) := by
  have h1 : a / b ≤ a := Nat.div_le_self a b
  have nb : nI b ≠ -1 := fun q => by
    have := congrArg Int32.toInt q
    rw [nI_toInt hb] at this
    have e : (-1 : Int32).toInt = -1 := rfl
    omega
  rw [i_eq, Int32.toInt_div_of_ne_right _ _ nb, nI_toInt ha, nI_toInt hb, nI_toInt (by omega), Int.tdiv_eq_ediv_of_nonneg (by omega)]
  rfl
theorem s_statistic (x1 : Int32) {X Y : Mm} (h : Rel X Y) : ∃ r Y', f_X10_statistic x1 X = some r ∧ f_X11_statistic x1 Y = some (r, Y') ∧ Rel X Y' := by
  obtain ⟨-, -, -, ⟨n, hn, hx, hy, hR, hb0⟩, -⟩ := h.pg
  have hb : ∀ k, k < n → rv X k = -2000000005 ∨ -1000000 ≤ rv X k ∧ rv X k ≤ 1000000 := hb0
  unfold f_X10_statistic f_X11_statistic
  rcases in_c x1 0 4 X Y with ⟨w1, w2, -⟩ | ⟨w1, w2, lo, hh⟩
  · rw [w1, w2]; exact ⟨_, _, rfl, rfl, h⟩
  obtain ⟨m, N, ey, hm, hs, hsi, no, nj⟩ := y_lay1 (Y := Y) (R := rv X) hn hy (fun k hk => hR k hk 0 (by decide))
  have hRel : Rel X N := Rel_keep (X := X) (Y := Y) (fun k _ => ⟨rfl, rfl⟩) ⟨congrFun (no 0 (by decide)) 4, congrFun (no 0 (by decide)) 9⟩ (fun a ha => no a (by omega)) (fun a _ => by rw [nj]) h
  have hcnt : f_X6_measuredCount X = some (nI m) := by
    obtain ⟨r, r1, r2⟩ := x_mc hn hx
    rw [sx_12 hn, ← hsi, si_one] at r2
    rw [r1, show r = nI m from by rw [i_eq, r2, nI_toInt (by omega)]]
  have e1 : (1 : Int32).toInt = 1 := rfl
  have eb1 : (-1000000 : Int32).toInt = -1000000 := rfl
  have eb2 : (1000000 : Int32).toInt = 1000000 := rfl
  have hex : ∀ k, k < m → ∃ i, i < n ∧ ¬ rv X i = -2000000005 ∧ rv X i = N.1 16 k := fun k hk => by
    have q := si_ge (φ := fun x => if x = N.1 16 k then 1 else 0) (g := N.1 16) (fun x => by
      show 0 ≤ (if x = N.1 16 k then (1 : Int) else 0)
      by_cases c : x = N.1 16 k
      · rw [if_pos c]; decide
      · rw [if_neg c]; decide) m k hk
    have q1 : (1 : Int) ≤ si (fun x => if x = N.1 16 k then 1 else 0) (N.1 16) m := by
      have e : (if N.1 16 k = N.1 16 k then (1 : Int) else 0) = 1 := if_pos rfl
      exact Int.le_trans (Int.le_of_eq e.symm) q
    rw [hsi] at q1
    obtain ⟨i, -, i2, i3, i4⟩ := sx_ex (n := n) (R := rv X) (φ := fun x => if x = N.1 16 k then 1 else 0) n (by omega)
    refine ⟨i, i2, i3, ?_⟩
    by_cases c : rv X i = N.1 16 k
    · exact c
    · exact absurd (if_neg c) i4
  have hbd : ∀ k, k < m → -1000000 ≤ (N.1 16 k).toInt ∧ (N.1 16 k).toInt ≤ 1000000 := fun k hk => by
    obtain ⟨i, i1, i2, i3⟩ := hex k hk
    rw [← i3]
    rcases hb i i1 with q | q
    · exact absurd q i2
    · rw [i_le, i_le] at q; omega
  have rank : ∀ k, k < m → f_X6_ranked (nI k) X = some (N.1 16 k) := fun k hk => by
    have hw : (N.1 16 k - 1).toInt = (N.1 16 k).toInt - 1 := by
      have := hbd k hk
      exact fb_subI (by omega) (by omega)
    refine x_rank hn hx hb (hex k hk) ?_ ?_
    · rw [sx_12 hn, ← hsi, nI_toInt (by omega)]
      refine si_cap (fun x => le1_r) m (fun j h1 h2 => if_neg (fun q => ?_))
      have := hs k j h1 h2
      rw [i_le] at this q
      omega
    · rw [sx_12 hn, ← hsi, nI_toInt (by omega)]
      have := si_low (φ := le1 (N.1 16 k)) (g := N.1 16) (fun x => le1_r) m hk (fun j hj => if_pos (hs j k hj hk))
      omega
  rw [w1, w2, ob1_s, ob1_s, if_neg one_0, if_neg one_0, hcnt, ob1_s, ey, ob2_s]
  by_cases c0 : x1 = 0
  · rw [if_pos c0, if_pos c0, if_pos c0]
    exact ⟨nI m, N, rfl, rfl, hRel⟩
  rw [if_neg c0, if_neg c0]
  rcases Nat.eq_zero_or_pos m with em | em
  · subst em
    rw [if_pos (show nI 0 = (0 : Int32) from rfl), if_pos (show nI 0 = (0 : Int32) from rfl), if_neg c0]
    exact ⟨_, N, rfl, rfl, hRel⟩
  have m0 : ¬ nI m = 0 := nI_ne0 em (by omega)
  rw [if_neg m0, if_neg m0]
  obtain ⟨S, es, s1, s2, s3⟩ : ∃ S : Int64, f_X11_statistic_L41 N (nI m) 1000 (0 : Int64) (0 : Int32) = some S ∧ S.toInt = si Int32.toInt (N.1 16) m ∧ -12000000 ≤ S.toInt ∧ S.toInt ≤ 12000000 := by
    obtain ⟨b, hb2, hP⟩ := lpUp (L := fun f x (s : Int64) => f_X11_statistic_L41 N (nI m) f s x) m (fun i s => s.toInt = si Int32.toInt (N.1 16) i ∧ -1000000 * (i : Int) ≤ s.toInt ∧ s.toInt ≤ 1000000 * (i : Int)) (fun b => b.toInt = si Int32.toInt (N.1 16) m ∧ -12000000 ≤ b.toInt ∧ b.toInt ≤ 12000000) (fun f s hs => ⟨s, by rw [f_X11_statistic_L41, if_pos (nI_le (Nat.le_refl _) (by omega))], hs.1, by omega, by omega⟩) (fun f i s hi hs => by
      rw [f_X11_statistic_L41, if_neg (nI_ge hi (by omega)), chk_p (inb_n (by omega) (by decide)), ix_n (by omega), lt1_s, lt1_s, nI_1]
      have q := hbd i hi
      have ea : (s + Int32.toInt64 (gI N 16 i)).toInt = s.toInt + (N.1 16 i).toInt := by
        rw [fb_addL] <;> rw [Int32.toInt_toInt64]
        · rfl
        · show _ ≤ s.toInt + (N.1 16 i).toInt; omega
        · show s.toInt + (N.1 16 i).toInt < _; omega
      refine Or.inr ⟨s + Int32.toInt64 (gI N 16 i), ⟨?_, ?_, ?_⟩, rfl⟩
      · rw [ea]; exact congrArg (· + (N.1 16 i).toInt) hs.1
      · rw [ea]; omega
      · rw [ea]; omega) (by omega) (s := (0 : Int64)) ⟨rfl, by decide, by decide⟩
    exact ⟨b, hb2, hP⟩
  rw [es, ob1_s]
  by_cases c1 : x1 = 1
  · rw [if_pos c1, if_pos c1, show f_X6_ranked (0 : Int32) X = some (N.1 16 0) from rank 0 em]
    exact ⟨_, N, rfl, rfl, hRel⟩
  rw [if_neg c1, if_neg c1]
  have mp : nI m - (1 : Int32) = nI (m - 1) := nI_sub (b := 1) em
  by_cases c2 : x1 = 2
  · rw [if_pos c2, if_pos c2, mp, rank (m - 1) (by omega), chk_p (inb_n (by omega) (by decide)), ix_n (by omega)]
    exact ⟨_, N, rfl, rfl, hRel⟩
  rw [if_neg c2, if_neg c2]
  by_cases c3 : x1 = 3
  · obtain ⟨A, a1, a2, -⟩ := x_avg hn hx hb
    have eA : A = S := by
      rw [j_eq, a2, s1, sx_12 hn, ← hsi]
    have n0 : ¬ Int32.toInt64 (nI m) = 0 := fun q => by
      have := congrArg Int64.toInt q
      rw [Int32.toInt_toInt64, nI_toInt (by omega)] at this
      have e : (0 : Int64).toInt = 0 := rfl
      omega
    unfold f_X6_average
    rw [if_pos c3, if_pos c3, a1, ob1_s, hcnt, ob1_s, quot n0, ob1_s, ob1_s, chk_p (show decide _ = true from decide_eq_true n0), eA]
    exact ⟨_, N, rfl, rfl, hRel⟩
  rw [if_neg c3, if_neg c3]
  have d1 : nI (m - 1) / (2 : Int32) = nI ((m - 1) / 2) := nI_div (b := 2) (by omega) (by decide) (by decide)
  have d2 : nI m / (2 : Int32) = nI (m / 2) := nI_div (b := 2) (by omega) (by decide) (by decide)
  have d3 : nI (m / 2) * (2 : Int32) = nI (m / 2 * 2) := nI_mul _ 2
  have d4 : nI m - nI (m / 2 * 2) = nI (m - m / 2 * 2) := nI_sub (by omega)
  rw [mp, d1, d2, d3, d4, rank ((m - 1) / 2) (by omega), rank (m / 2) (by omega), ob1_s, ob1_s]
  rcases Nat.mod_two_eq_zero_or_one m with e | e
  · have d5 : nI (m / 2) - (1 : Int32) = nI (m / 2 - 1) := nI_sub (b := 1) (by omega)
    rw [if_neg (show ¬ nI (m - m / 2 * 2) = (1 : Int32) from fun q => absurd ((nI_eq (by omega) (by decide)).mp (show nI (m - m / 2 * 2) = nI 1 from q)) (by omega)), d5, chk_p (inb_n (by omega) (by decide)), chk_p (inb_n (by omega) (by decide)), ix_n (by omega), ix_n (by omega), show (m - 1) / 2 = m / 2 - 1 by omega]
    exact ⟨_, N, rfl, rfl, hRel⟩
  · rw [if_pos (show nI (m - m / 2 * 2) = (1 : Int32) by rw [show m - m / 2 * 2 = 1 by omega]; rfl), chk_p (inb_n (by omega) (by decide)), ix_n (by omega), show (m - 1) / 2 = m / 2 by omega]
    refine ⟨_, N, rfl, ?_, hRel⟩
    have q := hbd (m / 2) (by omega)
    have ea : (N.1 16 (m / 2) + N.1 16 (m / 2)).toInt = (N.1 16 (m / 2)).toInt + (N.1 16 (m / 2)).toInt := fb_addI (by omega) (by omega)
    have ed : (N.1 16 (m / 2) + N.1 16 (m / 2)) / 2 = N.1 16 (m / 2) := by
      rw [i_eq, Int32.toInt_div_of_ne_right _ _ (by decide), ea, show (2 : Int32).toInt = 2 from rfl, show (N.1 16 (m / 2)).toInt + (N.1 16 (m / 2)).toInt = (N.1 16 (m / 2)).toInt * 2 by omega, Int.mul_tdiv_cancel _ (by decide)]
    rw [ed]
    rfl

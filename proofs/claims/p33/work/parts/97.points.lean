/-! P33, 14: points set and removed -/
theorem cvS_ne {o j : Nat} (h : cvS o j = true) : o ≠ 10 ∧ o ≠ 11 ∧ o ≠ 12 := by
  refine ⟨fun e => ?_, fun e => ?_, fun e => ?_⟩
  all_goals (subst e; exact absurd (h.symm.trans (show _ = false from rfl)) (by decide))
theorem ff_pt {X : Mm} {n a : Nat} {P : Nat → Int32} {x : Int32} (hF : PF n (X.1 10 2) (X.1 11) (X.1 12) P) (ha : a < n) (hv : X.1 11 a = x) : f_X4_factorFor x X = some (X.1 12 a) := by
  obtain ⟨hn, hc, hp, hk, hs⟩ := id hF
  have hc' : gI X 10 2 = nI n := hc
  obtain ⟨b, xa, hPl⟩ := x_place hF x
  obtain rfl : b = a := hPl.here hF ha hv
  have x0 : 0 ≤ x := by rw [← hv]; exact (hk b ha).2.1.1
  have ej : jabs x = x := if_pos x0
  unfold f_X4_factorFor
  rw [lt1_s, ej, xa, ob1_s, hc', if_neg (nI_ne0 (by omega) (by omega))]
  rcases Nat.eq_zero_or_pos b with e | e
  · subst e
    rw [if_pos (show nI 0 = (0 : Int32) from rfl)]
    rfl
  · have ap : nI b - (1 : Int32) = nI (b - 1) := nI_sub (b := 1) (by omega)
    obtain ⟨z1, -, z4⟩ := between (s := X.1 12 (b - 1)) (t := X.1 12 b) (p := X.1 11 (b - 1)) (q := X.1 11 b) (v := x) (hk (b - 1) (by omega)).2.2 (hk b ha).2.2 (hk (b - 1) (by omega)).2.1 (hk b ha).2.1 (hPl.2.1 (b - 1) (by omega)) (hPl.2.2 ha)
    rw [if_neg (nI_ne0 e (by omega)), lt1_s, ap, if_neg (show ¬ (6 : Int32) ≤ nI b from nI_ge (b := 6) (by omega) (by decide)), if_pos (nI_lt ha (by omega)), ix_n (n := b - 1) (by omega), ix_n (n := b) (by omega)]
    simp only [lt1_s, chk_p (inb_n (c := b - 1) (N := 6) (by omega) (by decide)), chk_p (inb_n (c := b) (N := 6) (by omega) (by decide))]
    rw [show gI X 11 (b - 1) = X.1 11 (b - 1) from rfl, show gI X 11 b = X.1 11 b from rfl, quot z1, ob1_s]
    exact congrArg some (z4 hv)
theorem x_setPoint {X : Mm} {B : Nat} {x v : Int32} (hI : Inv B X) (a1 : 0 ≤ x) (a2 : x ≤ 100000) (b1 : 500 ≤ v) (b2 : v ≤ 1500) : ∃ r X', f_X10_setPoint x v X = some (r, X') ∧ Inv B X' ∧ (∀ k, k < 10 → X'.1 k = X.1 k) ∧
    ((r = -2000000004 ∧ X.1 10 2 = 6 ∧ X'.1 10 2 = 6) ∨ (¬ r = -2000000004 ∧ (r = X.1 10 2 ∨ r = X.1 10 2 + 1) ∧ ∃ a n, X'.1 10 2 = nI n ∧ n ≤ 6 ∧ a < n ∧ X'.1 11 a = x ∧ X'.1 12 a = v)) := by
  obtain ⟨⟨Y, hR⟩, -⟩ := id hI
  obtain ⟨r, X2, Y2, e1, -, hR2⟩ := s_setPoint x v hR
  obtain ⟨X1, p1, hI1, kx, hT⟩ := hI.push
  obtain ⟨-, ⟨n, hF⟩, -⟩ := hR.pg
  obtain ⟨hn, hc, hp, hk, hs⟩ := id hF
  have hc' : gI X 10 2 = nI n := hc
  have kx10 : X1.1 10 = X.1 10 := kx_lo kx (by decide)
  have kx11 : X1.1 11 = X.1 11 := kx_lo kx (by decide)
  have kx12 : X1.1 12 = X.1 12 := kx_lo kx (by decide)
  have hF1 : PF n (X1.1 10 2) (X1.1 11) (X1.1 12) (Y.1 1) := by
    rw [kx10, kx11, kx12]
    exact hF
  have hc1 : gI X1 10 2 = nI n := hF1.2.1
  have nfl : ∀ m, m ≤ 6 → ¬ nI m = (-2000000004 : Int32) := fun m hm z => nI_pos (n := m) (by omega) (by rw [z]; decide)
  rcases x_find hF x with ⟨a, ha, xf, hv⟩ | ⟨xf, hno⟩
  · have xf1 : f_X4_find x X1 = some (nI a) := by
      rcases x_find hF1 x with ⟨c, hc', e, hv'⟩ | ⟨-, hno'⟩
      · obtain ⟨d, -, hPl⟩ := x_place hF1 x
        obtain rfl := hPl.here hF1 hc' hv'
        obtain rfl : d = a := hPl.here hF1 ha (by rw [kx11]; exact hv)
        exact e
      · exact absurd (by rw [kx11]; exact hv) (hno' a ha)
    have e2 : f_X10_setPoint x v X = some (nI n, wI X1 12 a v) := by
      unfold f_X10_setPoint f_X4_put
      rw [in_y a1 a2, ob1_s, if_neg one_0, in_y b1 b2, ob1_s, if_neg one_0, xf, ob1_s, if_pos (show (0 : Int32) ≤ nI a from nI_pos' (by omega)), p1, ob1_s, xf1, ob1_s, if_neg (nI_pos (by omega)), if_neg (show ¬ (6 : Int32) ≤ nI a from nI_ge (b := 6) (by omega) (by decide)), chk_p (inb_n (by omega) (by decide)), ix_n (n := a) (by omega), lt1_s, ob1_s, show gI (wI X1 12 a v) 10 2 = nI n from hc1]
    obtain ⟨rfl, rfl⟩ := Prod.mk.inj (Option.some.inj (e1.symm.trans e2))
    refine ⟨_, _, e2, (op_fin hI1 hT ⟨Y2, hR2⟩ (fun k c d => ⟨wI_o (by omega), rfl⟩) (fun o j _ h => by rw [wI_o (cvS_ne h).2.2]) rfl).1, fun k hk' => ?_, Or.inr ⟨nfl n hn, Or.inl hc.symm, a, n, ?_, hn, ha, ?_, wI_e⟩⟩
    · rw [wI_o (by omega), kx_lo kx (by omega)]
    · rw [wI_o (by decide)]
      exact hc1
    · rw [wI_o (by decide), kx11]
      exact hv
  · have xf1 : f_X4_find x X1 = some (-1) := by
      rcases x_find hF1 x with ⟨c, hc', -, hv'⟩ | ⟨e, -⟩
      · rw [kx11] at hv'
        exact absurd hv' (hno c hc')
      · exact e
    rcases Nat.eq_or_lt_of_le hn with e6 | e6
    · subst e6
      have e2 : f_X10_setPoint x v X = some (-2000000004, X) := by
        unfold f_X10_setPoint
        rw [in_y a1 a2, ob1_s, if_neg one_0, in_y b1 b2, ob1_s, if_neg one_0, xf, ob1_s, if_neg (show ¬ (0 : Int32) ≤ -1 by decide), hc', if_neg (show ¬ nI 6 < (6 : Int32) by decide)]
      exact ⟨_, _, e2, hI, fun _ _ => rfl, Or.inl ⟨rfl, hc, hc⟩⟩
    obtain ⟨a, -, hPl⟩ := x_place hF x
    have hup : ∀ k, a ≤ k → k < n → x < X.1 11 k := fun k h1 h2 => by
      have z := hPl.2.2 (by omega)
      have z2 := hno k h2
      rw [i_eq] at z2
      rw [i_le] at z
      rw [i_lt]
      rcases Nat.eq_or_lt_of_le h1 with q | q
      · subst q; omega
      · have := hs a k q h2
        rw [i_lt] at this
        omega
    have hle := hPl.1
    obtain ⟨M, m1, m11, m12, mo, mj⟩ := x_ins (X := X1) e6 (x := x) hPl.1 (fun k hk' => by rw [kx11]; exact hPl.2.1 k hk') (fun k h1 h2 => by rw [kx11]; exact hup k h1 h2)
    have g1 : gI (wI (wI M 11 a x) 12 a v) 10 2 = nI n := by
      show (wI (wI M 11 a x) 12 a v).1 10 2 = _
      rw [wI_o (by decide), wI_o (by decide), mo 10 (by decide) (by decide)]
      exact hc1
    have e2 : f_X10_setPoint x v X = some (nI (n + 1), wI (wI (wI M 11 a x) 12 a v) 10 2 (nI (n + 1))) := by
      unfold f_X10_setPoint f_X4_put
      rw [in_y a1 a2, ob1_s, if_neg one_0, in_y b1 b2, ob1_s, if_neg one_0, xf, ob1_s, if_neg (show ¬ (0 : Int32) ≤ -1 by decide), hc', if_pos (show nI n < (6 : Int32) from nI_lt e6 (by decide)), p1, ob1_s, xf1, ob1_s, if_pos (show (-1 : Int32) < 0 by decide), hc1, if_neg (nI_pos (by omega)), if_pos (show nI n < (6 : Int32) from nI_lt e6 (by decide)), lt1_s, lt1_s, m1, ob2_s]
      simp only [lt1_s, ob1_s, chk_p (inb_n (c := a) (N := 6) (by omega) (by decide)), ix_n (n := a) (by omega)]
      rw [g1, nI_1, show ∀ M : Mm, gI (wI M 10 2 (nI (n + 1))) 10 2 = nI (n + 1) from fun M => wI_e]
    obtain ⟨rfl, rfl⟩ := Prod.mk.inj (Option.some.inj (e1.symm.trans e2))
    refine ⟨_, _, e2, (op_fin hI1 hT ⟨Y2, hR2⟩ (fun k c d => ⟨?_, ?_⟩) (fun o j _ h => ?_) ?_).1, fun k hk' => ?_, Or.inr ⟨nfl (n + 1) (by omega), Or.inr ?_, a, n + 1, wI_e, by omega, by omega, ?_, ?_⟩⟩
    · rw [wI_o (by omega), wI_o (by omega), wI_o (by omega), mo k (by omega) (by omega)]
    · show M.2 k = _
      rw [mj]
    · obtain ⟨h0, h1, h2⟩ := cvS_ne h
      rw [wI_o h0, wI_o h2, wI_o h1, mo o h1 h2]
    · show M.2 0 = _
      rw [mj]
    · rw [wI_o (by omega), wI_o (by omega), wI_o (by omega), mo k (by omega) (by omega), kx_lo kx (by omega)]
    · rw [hc, nI_1]
    · rw [wI_o (by decide), wI_o (by decide), wI_e]
    · rw [wI_o (by decide), wI_e]
theorem x_remove {X : Mm} {B n a : Nat} {x : Int32} (hI : Inv B X) (hc0 : X.1 10 2 = nI n) (hn6 : n ≤ 6) (ha : a < n) (hv : X.1 11 a = x) : ∃ X', f_X10_removePoint x X = some (X.1 12 a, X') ∧ Inv B X' ∧ (∀ k, k < 10 → X'.1 k = X.1 k) ∧ f_X10_removePoint x X' = some (-2000000003, X') := by
  obtain ⟨⟨Y, hR⟩, -⟩ := id hI
  obtain ⟨r, X2, Y2, e1, -, hR2⟩ := s_removePoint x hR
  obtain ⟨X1, p1, hI1, kx, hT⟩ := hI.push
  obtain ⟨-, ⟨n', hF⟩, -⟩ := hR.pg
  obtain ⟨hn, hc, hp, hk, hs⟩ := id hF
  obtain rfl : n' = n := (nI_eq (by omega) (by omega)).mp (hc.symm.trans hc0)
  obtain ⟨⟨-, -⟩, ⟨a1, a2⟩, -⟩ := hk a ha
  rw [hv] at a1 a2
  have kx10 : X1.1 10 = X.1 10 := kx_lo kx (by decide)
  have kx11 : X1.1 11 = X.1 11 := kx_lo kx (by decide)
  have kx12 : X1.1 12 = X.1 12 := kx_lo kx (by decide)
  have hc1 : X1.1 10 2 = nI n' := by rw [kx10]; exact hc
  obtain ⟨M, m1, m11, m12, mo, mj⟩ := x_del hn ha hc1
  have xf : f_X4_find x X = some (nI a) := by
    rcases x_find hF x with ⟨c, hc', e, hv'⟩ | ⟨-, hno'⟩
    · obtain ⟨d, -, hPl⟩ := x_place hF x
      obtain rfl := hPl.here hF hc' hv'
      obtain rfl : d = a := hPl.here hF ha hv
      exact e
    · exact absurd hv (hno' a ha)
  have np : nI n' - (1 : Int32) = nI (n' - 1) := nI_sub (b := 1) (by omega)
  have gM : gI M 10 2 = nI n' := (congrFun (mo 10 (by decide) (by decide)) 2).trans hc1
  have e2 : f_X10_removePoint x X = some (X.1 12 a, wI M 10 2 (nI (n' - 1))) := by
    unfold f_X10_removePoint f_X4_take
    rw [in_y a1 a2, ob1_s, if_neg one_0, xf, ob1_s, if_pos (show (0 : Int32) ≤ nI a from nI_pos' (by omega)), p1, ob1_s, if_neg (nI_pos (by omega)), show gI X1 10 2 = nI n' from hc1, if_neg (nI_ge ha (by omega)), if_pos (show nI a < (6 : Int32) from nI_lt (b := 6) (by omega) (by decide)), chk_p (inb_n (by omega) (by decide)), ix_n (by omega), nI_1]
    simp only [lt1_s]
    rw [m1, ob1_s, gM, np, ob2_s, show gI X1 12 a = X.1 12 a from congrFun kx12 a]
  obtain ⟨rfl, rfl⟩ := Prod.mk.inj (Option.some.inj (e1.symm.trans e2))
  refine ⟨_, e2, (op_fin hI1 hT ⟨Y2, hR2⟩ (fun k c d => ⟨?_, ?_⟩) (fun o j _ h => ?_) ?_).1, fun k hk' => ?_, ?_⟩
  · rw [wI_o (by omega), mo k (by omega) (by omega)]
  · show M.2 k = _
    rw [mj]
  · obtain ⟨h0, h1, h2⟩ := cvS_ne h
    rw [wI_o h0, mo o h1 h2]
  · show M.2 0 = _
    rw [mj]
  · rw [wI_o (by omega), mo k (by omega) (by omega), kx_lo kx (by omega)]
  · obtain ⟨-, ⟨n2, hF2⟩, -⟩ := hR2.pg
    have hc2 : (wI M 10 2 (nI (n' - 1))).1 10 2 = nI (n' - 1) := wI_e
    obtain rfl : n2 = n' - 1 := (nI_eq (by have := hF2.1; omega) (by omega)).mp (hF2.2.1.symm.trans hc2)
    unfold f_X10_removePoint
    rw [in_y a1 a2, ob1_s, if_neg one_0]
    rcases x_find hF2 x with ⟨c, hc', -, hv'⟩ | ⟨e, -⟩
    · exfalso
      rw [wI_o (by decide), m11, kx11] at hv'
      unfold delA at hv'
      by_cases q : a ≤ c ∧ c + 1 < n'
      · rw [if_pos q] at hv'
        have := hs a (c + 1) (by omega) q.2
        rw [hv, hv', i_lt] at this
        omega
      · rw [if_neg q] at hv'
        have := hs c a (by omega) ha
        rw [hv, hv', i_lt] at this
        omega
    · rw [e, ob1_s, if_neg (show ¬ (0 : Int32) ≤ -1 by decide)]

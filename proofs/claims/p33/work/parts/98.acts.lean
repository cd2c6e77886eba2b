/-! P33, 15: an act -/
theorem wb_i {X : Mm} {B n : Nat} (hI : Inv B X) (hn : NP X n) (h0 : 0 < n) : ∃ X', f_X10_wouldBe X = some (wbX X, X') ∧ Inv B X' ∧ Jd X X' ∧ NP X' n := by
  obtain ⟨⟨Y, hR⟩, -⟩ := id hI
  obtain ⟨X', e, hR', hJ⟩ := x_wouldBe hR hn h0
  exact ⟨X', e, hI.jd hR' hJ, hJ, hn.se hJ.pg⟩
theorem SwE.jd {X X' X'' : Mm} (h : SwE X X') (hj : Jd X' X'') : SwE X X'' :=
  ⟨fun q hq => ⟨(hj.1 _ (by omega)).trans (h.1 q hq).1, (hj.1 _ (by omega)).trans (h.1 q hq).2⟩, fun o a b => (hj.1 _ (by omega)).trans (h.2.1 o a b), fun j hj4 => (congrFun (hj.1 0 (by omega)) j).trans (h.2.2.1 j hj4), (congrFun hj.2 0).trans h.2.2.2⟩
theorem sw_rf {X X' : Mm} {i : Nat} (h : SwE X X') (hi : i < 4) : rfF X' i = rfB X i ∧ rfB X' i = rfF X i ∧ tdX X' i 1 = tdX X i 0 := by
  unfold rfF rfB tdX
  rw [(h.1 i hi).1, (h.1 i hi).2]
  exact ⟨rfl, rfl, rfl⟩
theorem se_rf {X X' : Mm} {i : Nat} (h : PgE X' 0 X 0) (hi : i < 4) : rfF X' i = rfF X i := by
  unfold rfF
  rw [se_p h hi (by decide), se_p h hi (by decide)]
section ACTS
variable {X : Mm} {B n i : Nat} {x y : Int32}
theorem a05 {h : Nat} (hI : Inv B X) (hn : NP X n) (h0 : 0 < n) (hB : B ≤ 1000000) (hh : h < 6) (hl : f_L_low x 16 X = some (nI h)) (hi : f_L_low (y >>> ((1 : Int32) &&& 31)) (nI n) X = some (nI i)) : ∃ X', f_L_acts x y X = some (1, X') ∧ Inv (B + 1) X' ∧ NP X' n := by
  have h4 := hn.1
  unfold f_L_acts
  rw [hl, ob1_s, lk_0, hn.2, ob1_s, hi, ob1_s, if_neg (show ¬ (6 : Int32) ≤ nI h from nI_ge (b := 6) hh (by decide))]
  have hmain : ∃ b, f_L_acts_L36 x y (nI h) (nI n) 1000 1 (0 : Int32) X = some b ∧ (b.1 = 1 ∧ Inv (B + 1) b.2 ∧ NP b.2 n) := by
    refine lpUp (L := fun f k (s : Mm) => f_L_acts_L36 x y (nI h) (nI n) f 1 k s) n (fun _ s => Inv B s ∧ NP s n) (fun b => b.1 = 1 ∧ Inv (B + 1) b.2 ∧ NP b.2 n) (fun f s hs => ?_) (fun f k s hk hs => ?_) (by omega) (s := X) ⟨hI, hn⟩
    · obtain ⟨X', e, hI', -, -, hn'⟩ := m_closes hs.1 hs.2 h0 hB
      refine ⟨(1, X'), ?_, rfl, hI', hn'⟩
      show f_L_acts_L36 x y (nI h) (nI n) (f + 1) 1 (nI n) s = _
      unfold f_L_acts_L36 f_L_acts_J104
      rw [if_pos (Int32.le_refl _), if_neg one_0, e, ob2_s, if_neg one_0]
    · obtain ⟨hIs, hns⟩ := hs
      obtain ⟨r, r1, -, -⟩ := low_v (v := x >>> (((4 : Int32) + nI k) &&& 31)) (n := 5) (X := s) (by decide)
      obtain ⟨yv, ey⟩ : ∃ yv, (if (4 : Int32) ≤ nI h then some ((y >>> (nI k &&& 31)) ^^^ x) else some y) = some yv := by
        by_cases c : (4 : Int32) ≤ nI h
        · rw [if_pos c]; exact ⟨_, rfl⟩
        · rw [if_neg c]; exact ⟨_, rfl⟩
      obtain ⟨s', e, hI', hn'⟩ := m_shoots (x := (x >>> (nI k &&& 31)) ^^^ y) (y := yv) hIs hns hk
      show (∃ b, f_L_acts_L36 x y (nI h) (nI n) (f + 1) 1 (nI k) s = some b ∧ _) ∨ (∃ s', _ ∧ f_L_acts_L36 x y (nI h) (nI n) (f + 1) 1 (nI k) s = _)
      rw [f_L_acts_L36, if_neg (show ¬ nI n ≤ nI k from nI_ge hk (by omega)), if_neg one_0, r1, ob1_s]
      by_cases c : r = 0
      · rw [if_pos c, ob2_s, lt1_s, nI_1]
        exact Or.inr ⟨s, ⟨hIs, hns⟩, rfl⟩
      · rw [if_neg c, ey, ob1_s, e, ob2_s, if_neg one_0, ob2_s, lt1_s, nI_1]
        exact Or.inr ⟨s', ⟨hI', hn'⟩, rfl⟩
  obtain ⟨⟨r, X'⟩, e, hr, hI', hn'⟩ := hmain
  obtain rfl : r = 1 := hr
  exact ⟨X', e, hI', hn'⟩
theorem a67 {h : Nat} (hI : Inv B X) (hn : NP X n) (h0 : 0 < n) (hB : B ≤ 1000000) (hh : 6 ≤ h) (hh2 : h < 8) (hl : f_L_low x 16 X = some (nI h)) (hi : f_L_low (y >>> ((1 : Int32) &&& 31)) (nI n) X = some (nI i)) : ∃ X', f_L_acts x y X = some (1, X') ∧ Inv (B + 1) X' ∧ NP X' n := by
  obtain ⟨X', e, hI', -, -, hn'⟩ := m_closes hI hn h0 hB
  unfold f_L_acts
  rw [hl, ob1_s, lk_0, hn.2, ob1_s, hi, ob1_s, if_pos (show (6 : Int32) ≤ nI h from nI_le (a := 6) hh (by omega)), if_neg (show ¬ (8 : Int32) ≤ nI h from nI_ge (b := 8) hh2 (by decide)), e, ob2_s, chk_p (show bz 1 = true by decide)]
  exact ⟨X', rfl, hI', hn'⟩
theorem a8 (hI : Inv B X) (hn : NP X n) (hin : i < n) (hl : f_L_low x 16 X = some 8) (hi : f_L_low (y >>> ((1 : Int32) &&& 31)) (nI n) X = some (nI i)) : ∃ X', f_L_acts x y X = some (1, X') ∧ Inv (B + 1) X' ∧ NP X' n := by
  obtain ⟨X', e, hI', hn'⟩ := m_shoots (x := x >>> ((4 : Int32) &&& 31)) (y := y) hI hn hin
  unfold f_L_acts
  rw [hl, ob1_s, lk_0, hn.2, ob1_s, hi, ob1_s, if_pos (by decide), if_pos (by decide), if_pos rfl, e, ob2_s, chk_p (show bz 1 = true by decide)]
  exact ⟨X', rfl, hI'.mono (by omega), hn'⟩
theorem a9 (hI : Inv B X) (hn : NP X n) (h0 : 0 < n) (hin : i < n) (hl : f_L_low x 16 X = some 9) (hi : f_L_low (y >>> ((1 : Int32) &&& 31)) (nI n) X = some (nI i)) : ∃ X', f_L_acts x y X = some (1, X') ∧ Inv (B + 1) X' ∧ NP X' n := by
  have h4 := hn.1
  obtain ⟨X1, e1, hI1, hJ1, hn1⟩ := wb_i hI hn h0
  obtain ⟨X2, e2, hI2, -, hn2, hS2, s2, -⟩ := x_swap hI1 hn1
  obtain ⟨X3, e3, hI3, hJ3, hn3⟩ := wb_i hI2 hn2 h0
  obtain ⟨X4, e4, hI4, -, hn4, hS4, s4, -⟩ := x_swap hI3 hn3
  obtain ⟨X5, e5, hI5, hJ5, hn5⟩ := wb_i hI4 hn4 h0
  obtain ⟨t1, t2, t3⟩ := sw_rf (i := i) hS2 (by omega)
  have w2 : wbX X2 = if wbX X = -2000000005 then -2000000005 else -wbX X := by rw [wb_sw hI1 hI2 hS2 hn1, se_wb hJ1.pg]
  have x01 : X1.1 0 4 = 0 ∨ X1.1 0 4 = 1 := by
    obtain ⟨⟨Y1, hR1⟩, -⟩ := hI1
    exact hR1.pg.2.2.2.2.1.2
  have s3 : X3.1 0 4 = (if X1.1 0 4 = 0 then 1 else 0) := (congrFun (hJ3.1 0 (by decide)) 4).trans s2
  have r1 : (if X1.1 0 4 = 0 then (1 : Int32) else 0) = 1 - (if X1.1 0 4 = 0 then 0 else 1) := by
    by_cases c : X1.1 0 4 = 0
    · rw [if_pos c, if_pos c]; rfl
    · rw [if_neg c, if_neg c]; rfl
  have r3 : (if X3.1 0 4 = 0 then (1 : Int32) else 0) = (if X1.1 0 4 = 0 then 0 else 1) := by
    rw [s3]
    by_cases c : X1.1 0 4 = 0
    · rw [if_pos c, if_pos c, if_neg one_0]
    · rw [if_neg c, if_neg c, if_pos rfl]
  have pb : PgE X4 0 X1 0 := sw_back (hS2.jd hJ3) hS4 (by
    rw [s4, r3]
    rcases x01 with c | c
    · rw [if_pos c, c]
    · rw [if_neg (by rw [c]; decide), c])
  have w4 : wbX X4 = wbX X := by rw [se_wb pb, se_wb hJ1.pg]
  have j253 : f_L_acts_J253 (wbX X) X2 = some (1, X3) := by
    unfold f_L_acts_J253
    rw [e3, ob2_s, w2]
    by_cases c : wbX X = -2000000005
    · rw [if_pos c, if_pos c, ob1_s, if_pos rfl]
    · rw [if_neg c, if_neg c, ob1_s, if_pos rfl]
  have jt : (if tdX X1 i 0 = -2000000005 then f_L_acts_J253 (wbX X) X2 else (ob1 (some (tdX X1 i 0)) fun r_127 => if r_127 = tdX X1 i 0 then f_L_acts_J253 (wbX X) X2 else some (0, X2))) = some (1, X3) := by
    rw [j253, ob1_s, if_pos rfl]
    by_cases c : tdX X1 i 0 = -2000000005
    · rw [if_pos c]
    · rw [if_neg c]
  have k0 : f_X10_told (nI i) 0 X1 = some (tdX X1 i 0) := lk_t (q := 0) hn1 hin (by decide)
  have k1 : f_X10_told (nI i) 1 X2 = some (tdX X1 i 0) := (lk_t (q := 1) hn2 hin (by decide)).trans (congrArg some t3)
  have p5 : f_X10_path (nI i) 5 X2 = some (rfB X1 i) := (lk_p5 hn2 hin).trans (congrArg some t1)
  have p6 : f_X10_path (nI i) 6 X2 = some (rfF X1 i) := (lk_p6 hn2 hin).trans (congrArg some t2)
  have p54 : f_X10_path (nI i) 5 X4 = some (rfF X1 i) := (lk_p5 hn4 hin).trans (congrArg some (se_rf pb (by omega)))
  obtain ⟨r, rl, -, -⟩ := low_v (v := y) (n := 2) (X := X3) (by decide)
  unfold f_L_acts
  rw [hl, ob1_s, lk_0, hn.2, ob1_s, hi, ob1_s, if_pos (by decide), if_pos (by decide), if_neg (by decide), if_pos rfl, e1, ob2_s, lk_p5 hn1 hin, ob1_s, lk_p6 hn1 hin, ob1_s, k0, ob1_s, lk_6, ob1_s, e2, ob2_s, if_pos r1, p5, ob1_s, if_pos rfl, p6, ob1_s, if_pos rfl, k1, jt, ob2_s, if_neg one_0, rl, ob1_s]
  by_cases c : r = 0
  · rw [if_pos c]
    exact ⟨X3, rfl, hI3.mono (by omega), hn3⟩
  · rw [if_neg c, e4, ob2_s, if_pos r3, p54, ob1_s, if_pos rfl, e5, ob2_s, if_pos w4]
    exact ⟨X5, rfl, hI5.mono (by omega), hn5⟩
theorem a10 (hI : Inv B X) (hn : NP X n) (hl : f_L_low x 16 X = some 10) (hi : f_L_low (y >>> ((1 : Int32) &&& 31)) (nI n) X = some (nI i)) : ∃ X', f_L_acts x y X = some (1, X') ∧ Inv (B + 1) X' ∧ NP X' n := by
  obtain ⟨q, hq, ql⟩ := low_n (v := y) (n := 5) (X := X) (by decide) (by decide)
  obtain ⟨a, a1, a2, a3⟩ := low_v (v := y >>> ((3 : Int32) &&& 31)) (n := 101) (X := X) (by decide)
  obtain ⟨b, b1, b2, b3⟩ := low_v (v := y >>> ((3 : Int32) &&& 31)) (n := 6) (X := X) (by decide)
  obtain ⟨c, c1, c2, c3⟩ := low_v (v := y >>> ((3 : Int32) &&& 31)) (n := 100) (X := X) (by decide)
  have z0 : (0 : Int32).toInt = 0 := rfl
  have z1 : (1 : Int32).toInt = 1 := rfl
  have z5 : (5 : Int32).toInt = 5 := rfl
  have z6 : (6 : Int32).toInt = 6 := rfl
  have z100 : (100 : Int32).toInt = 100 := rfl
  have z101 : (101 : Int32).toInt = 101 := rfl
  have z1000 : (1000 : Int32).toInt = 1000 := rfl
  have z10 : (1000000 : Int32).toInt = 1000000 := rfl
  have c4 : (1 + c).toInt = 1 + c.toInt := fb_addI (by omega) (by omega)
  obtain ⟨v, ev, v0, v1⟩ : ∃ v, (if nI q = (0 : Int32) then (ob1 (f_L_low (y >>> ((3 : Int32) &&& 31)) (101 : Int32) X) fun r_99 => some r_99) else (if nI q = (1 : Int32) then (ob1 (f_L_low (y >>> ((3 : Int32) &&& 31)) (6 : Int32) X) fun r_98 => some r_98) else (ob1 (f_L_low (y >>> ((3 : Int32) &&& 31)) (100 : Int32) X) fun r_97 => some ((1 : Int32) + r_97)))) = some v ∧ sSETTING_LOW q ≤ v ∧ v ≤ sSETTING_HIGH q := by
    rw [a1, b1, c1]
    have : q = 0 ∨ q = 1 ∨ q = 2 ∨ q = 3 ∨ q = 4 := by omega
    rcases this with rfl | rfl | rfl | rfl | rfl
    · refine ⟨a, rfl, ?_, ?_⟩
      · show (0 : Int32) ≤ a
        rw [i_le]; omega
      · show a ≤ (100 : Int32)
        rw [i_le]; omega
    · refine ⟨b, rfl, ?_, ?_⟩
      · show (0 : Int32) ≤ b
        rw [i_le]; omega
      · show b ≤ (5 : Int32)
        rw [i_le]; omega
    · refine ⟨1 + c, rfl, ?_, ?_⟩
      · show (1 : Int32) ≤ 1 + c
        rw [i_le]; omega
      · show 1 + c ≤ (100 : Int32)
        rw [i_le]; omega
    · refine ⟨1 + c, rfl, ?_, ?_⟩
      · show (1 : Int32) ≤ 1 + c
        rw [i_le]; omega
      · show 1 + c ≤ (1000000 : Int32)
        rw [i_le]; omega
    · refine ⟨1 + c, rfl, ?_, ?_⟩
      · show (1 : Int32) ≤ 1 + c
        rw [i_le]; omega
      · show 1 + c ≤ (1000 : Int32)
        rw [i_le]; omega
  obtain ⟨X1, e1, hI1, hT1, hn1, k1⟩ := x_set hI hn hq v0 v1
  obtain ⟨r, X2, e2, r2, hI2, hp⟩ := hI1.undo hT1
  have hn2 : NP X2 n := hn.se hp
  obtain ⟨X3, e3, hI3, -, hn3, -⟩ := x_set hI2 hn2 hq v0 v1
  have t0 : ∀ M : Mm, f_X10_total ((10 : Int32) + nI q) M = some (M.1 13 q) := fun M => by
    rw [show (10 : Int32) + nI q = nI (10 + q) from nI_add 10 q]
    exact lk_s hq
  have k2 : X2.1 13 q = X.1 13 q := se_g hp hq
  unfold f_L_acts
  rw [hl, ob1_s, lk_0, hn.2, ob1_s, hi, ob1_s, if_pos (by decide), if_pos (by decide), if_neg (by decide), if_neg (by decide), if_pos rfl, show f_L_low y 5 X = some (nI q) from ql, ob1_s, ev, ob1_s, t0, ob1_s, e1, ob2_s, if_pos rfl, t0, ob1_s, if_pos k1, e2, ob2_s, if_neg r2, t0, ob1_s, if_pos k2, e3, ob2_s, if_pos k2]
  exact ⟨X3, rfl, hI3.mono (by omega), hn3⟩
theorem a11 (hI : Inv B X) (hn : NP X n) (hl : f_L_low x 16 X = some 11) (hi : f_L_low (y >>> ((1 : Int32) &&& 31)) (nI n) X = some (nI i)) : ∃ X', f_L_acts x y X = some (1, X') ∧ Inv (B + 1) X' ∧ NP X' n := by
  have h4 := hn.1
  obtain ⟨a, al, a2, a3⟩ := low_v (v := y) (n := 9) (X := X) (by decide)
  obtain ⟨b, bl, b2, b3⟩ := low_v (v := y >>> ((4 : Int32) &&& 31)) (n := 1001) (X := X) (by decide)
  have z9 : (9 : Int32).toInt = 9 := rfl
  have z5 : (500 : Int32).toInt = 500 := rfl
  have z0 : (0 : Int32).toInt = 0 := rfl
  have z1 : (1001 : Int32).toInt = 1001 := rfl
  have z15 : (1500 : Int32).toInt = 1500 := rfl
  have zk : (100000 : Int32).toInt = 100000 := rfl
  have a4 : (a * 500).toInt = a.toInt * 500 := by rw [fb_mulI, z5] <;> rw [z5] <;> omega
  have b4 : (500 + b).toInt = 500 + b.toInt := fb_addI (by omega) (by omega)
  obtain ⟨r, X1, e1, hI1, k1, hc⟩ := x_setPoint (x := a * 500) (v := 500 + b) hI (by rw [i_le]; omega) (by rw [i_le]; omega) (by rw [i_le]; omega) (by rw [i_le]; omega)
  have hn1 : NP X1 n := ⟨h4, by rw [k1 0 (by decide)]; exact hn.2⟩
  unfold f_L_acts
  rw [hl, ob1_s, lk_0, hn.2, ob1_s, hi, ob1_s, if_pos (by decide), if_pos (by decide), if_neg (by decide), if_neg (by decide), if_neg (by decide), if_pos rfl, al, ob1_s, lt1_s, bl, ob1_s, lt1_s, lk_1, ob1_s, e1, ob2_s]
  rcases hc with ⟨c1, c2, c3⟩ | ⟨c1, c2, p, m, c3, c4, c5, c6, c7⟩
  · rw [if_pos c1, if_pos c2, lk_1, ob1_s, if_pos c3]
    exact ⟨X1, rfl, hI1.mono (by omega), hn1⟩
  · obtain ⟨⟨Y1, hR1⟩, -⟩ := id hI1
    obtain ⟨-, ⟨m', hF⟩, -⟩ := hR1.pg
    obtain rfl : m' = m := (nI_eq (by have := hF.1; omega) (by omega)).mp (hF.2.1.symm.trans c3)
    have ff := ff_pt hF c5 c6
    obtain ⟨s, s1, s2, -⟩ := lk_factor hR1 (x := a * 500) (by omega) (by omega)
    have sv : s = 500 + b := (Option.some.inj (s2.symm.trans ff)).trans c7
    have s3 := lk_factorN hR1 (x := a * 500) (by omega) (by omega)
    rw [s1, sv] at s3
    rw [sv] at s1
    obtain ⟨X2, e2, hI2, k2, e3⟩ := x_remove hI1 c3 c4 c5 c6
    have hn2 : NP X2 n := ⟨h4, by rw [k2 0 (by decide)]; exact hn1.2⟩
    obtain ⟨w, wl, -, -⟩ := low_v (v := y >>> ((9 : Int32) &&& 31)) (n := 3) (X := X1) (by decide)
    have j565 : ∃ X', f_L_acts_J565 y (a * 500) (500 + b) X1 = some (1, X') ∧ Inv (B + 1) X' ∧ NP X' n := by
      unfold f_L_acts_J565
      rw [s1, ob1_s, if_pos rfl, s3, ob1_s, if_pos rfl, wl, ob1_s]
      by_cases d : (0 : Int32) < w
      · rw [if_pos d]
        exact ⟨X1, rfl, hI1.mono (by omega), hn1⟩
      · rw [if_neg d, e2, ob2_s, if_pos c7, e3, ob2_s, if_pos rfl]
        exact ⟨X2, rfl, hI2.mono (by omega), hn2⟩
    rw [if_neg c1]
    by_cases d : r = X.1 10 2
    · rw [if_pos d]
      exact j565
    · rw [if_neg d, if_pos (c2.resolve_left d)]
      exact j565
theorem a12 (hI : Inv B X) (hn : NP X n) (hin : i < n) (hl : f_L_low x 16 X = some 12) (hi : f_L_low (y >>> ((1 : Int32) &&& 31)) (nI n) X = some (nI i)) : ∃ X', f_L_acts x y X = some (1, X') ∧ Inv (B + 1) X' ∧ NP X' n := by
  obtain ⟨a, al, a2, a3⟩ := low_v (v := y >>> ((3 : Int32) &&& 31)) (n := 1000) (X := X) (by decide)
  have z1 : (1 : Int32).toInt = 1 := rfl
  have z2 : (1000 : Int32).toInt = 1000 := rfl
  have a4 : (1 + a).toInt = 1 + a.toInt := fb_addI (by omega) (by omega)
  obtain ⟨X1, e1, hI1, hn1, k1⟩ := x_setWeight (w := 1 + a) hI hn hin (by rw [i_le]; omega) (by rw [i_le]; omega)
  unfold f_L_acts
  rw [hl, ob1_s, lk_0, hn.2, ob1_s, hi, ob1_s, if_pos (by decide), if_pos (by decide), if_neg (by decide), if_neg (by decide), if_neg (by decide), if_neg (by decide), if_pos rfl, al, ob1_s, lt1_s, lk_p2 hn hin, ob1_s, e1, ob2_s, if_pos rfl, lk_p2 hn1 hin, ob1_s, if_pos k1, x_setWeightN hn1, ob2_s, if_pos rfl, x_setWeight0 hn1 hin, ob2_s, if_pos rfl]
  exact ⟨X1, rfl, hI1.mono (by omega), hn1⟩
theorem a13 (hI : Inv B X) (hn : NP X n) (hin : i < n) (hl : f_L_low x 16 X = some 13) (hi : f_L_low (y >>> ((1 : Int32) &&& 31)) (nI n) X = some (nI i)) : ∃ X', f_L_acts x y X = some (1, X') ∧ Inv (B + 1) X' ∧ NP X' n := by
  have h4 := hn.1
  obtain ⟨⟨Y, hR⟩, -⟩ := id hI
  obtain ⟨⟨n', hA⟩, -⟩ := hR.pg
  obtain rfl : n' = n := (nI_eq (by have := hA.1; omega) (by omega)).mp (hA.2.1.symm.trans hn.2)
  have rf : rfF X i = -2000000005 ↔ X.1 (2 + 2 * i) 5 = 0 := by
    unfold rfF
    rcases (hA.2.2.2.1 i hin).ref with ⟨q, -⟩ | ⟨q, q2, q3, -⟩
    · rw [if_pos q]; exact ⟨fun _ => q, fun _ => rfl⟩
    · rw [if_neg q]
      exact ⟨fun z => absurd (q3.trans z) q2, fun z => absurd z q⟩
  obtain ⟨X1, e1, hI1, hT1, hn1, k1, k2⟩ := x_forget hI hn hin
  obtain ⟨r, X2, e2, r2, hI2, hp⟩ := hI1.undo hT1
  have hn2 : NP X2 n' := hn.se hp
  have p5 : f_X10_path (nI i) 5 X1 = some (-2000000005) := (lk_p5 hn1 hin).trans (congrArg some (if_pos k1))
  have p7 : f_X10_path (nI i) 7 X1 = some (-2000000005) := (lk_p7 hn1 hin).trans (congrArg some (if_pos k2))
  have p52 : f_X10_path (nI i) 5 X2 = some (rfF X i) := (lk_p5 hn2 hin).trans (congrArg some (se_rf hp (by omega)))
  obtain ⟨w, wl, -, -⟩ := low_v (v := y >>> ((4 : Int32) &&& 31)) (n := 2) (X := X1) (by decide)
  unfold f_L_acts
  rw [hl, ob1_s, lk_0, hn.2, ob1_s, hi, ob1_s, if_pos (by decide), if_pos (by decide), if_neg (by decide), if_neg (by decide), if_neg (by decide), if_neg (by decide), if_neg (by decide), if_pos rfl, lk_p5 hn hin, ob1_s]
  by_cases c : X.1 (2 + 2 * i) 5 = 0
  · rw [if_pos c] at e1
    rw [if_pos (rf.mpr c), ob1_s, e1, ob2_s, if_pos rfl, p5, ob1_s, if_pos rfl, p7, ob1_s, if_pos rfl, wl, ob1_s]
    by_cases d : w = 0
    · rw [if_pos d]
      exact ⟨X1, rfl, hI1.mono (by omega), hn1⟩
    · rw [if_neg d, e2, ob2_s, if_neg r2, p52, ob1_s, if_pos (rf.mpr c), ob1_s, if_pos rfl, ob1_s, if_pos rfl]
      exact ⟨X2, rfl, hI2.mono (by omega), hn2⟩
  · rw [if_neg c] at e1
    rw [if_neg (fun z => c (rf.mp z)), ob1_s, e1, ob2_s, if_pos rfl, p5, ob1_s, if_pos rfl, p7, ob1_s, if_pos rfl, wl, ob1_s]
    by_cases d : w = 0
    · rw [if_pos d]
      exact ⟨X1, rfl, hI1.mono (by omega), hn1⟩
    · rw [if_neg d, e2, ob2_s, if_neg r2, p52, ob1_s, if_neg (fun z => c (rf.mp z)), ob1_s, if_neg one_0, ob1_s, if_pos rfl]
      exact ⟨X2, rfl, hI2.mono (by omega), hn2⟩
theorem a14 (hI : Inv B X) (hn : NP X n) (h0 : 0 < n) (hB : B ≤ 1000000) (hl : f_L_low x 16 X = some 14) (hi : f_L_low (y >>> ((1 : Int32) &&& 31)) (nI n) X = some (nI i)) : ∃ X', f_L_acts x y X = some (1, X') ∧ Inv (B + 1) X' ∧ NP X' n := by
  obtain ⟨c, hc, cl⟩ := low_n (v := y) (n := 2) (X := X) (by decide) (by decide)
  obtain ⟨X1, e1, hI1, hJ1, hn1⟩ := wb_i hI hn h0
  obtain ⟨X2, e2, hI2, p2, pc, k2⟩ := hI1.save hc
  have hn2 : NP X2 n := hn1.se p2
  obtain ⟨X3, e3, hI3, -, hS3, hn3⟩ := m_closes hI2 hn2 h0 hB
  obtain ⟨X4, e4, hI4, -, hn4, -, -, hS4⟩ := x_swap hI3 hn3
  have hS := hS3.tr hS4
  obtain ⟨X5, e5, hI5, p5⟩ := hI4.restore hc (by rw [(hS 228 (Or.inr rfl)).1]; exact k2)
  have ps : PgE X4 (28 * (c + 6)) X2 (28 * (c + 6)) := PgE.of (fun o ho => (hS _ (Or.inl (by omega))).1) (hS _ (Or.inl (by omega))).2
  have p51 : PgE X5 0 X1 0 := (pc.tr ps).tr p5
  have p50 : PgE X5 0 X 0 := hJ1.pg.tr p51
  have hn5 : NP X5 n := hn.se p50
  obtain ⟨X6, e6, hI6, hJ6, hn6⟩ := wb_i hI5 hn5 h0
  have a1 : X1.1 0 6 = X.1 0 6 := congrFun (hJ1.1 0 (by decide)) 6
  have a5 : X5.1 0 6 = X.1 0 6 := (se_0 p50).2.2.1
  have wb : wbX X5 = wbX X := se_wb p50
  have p61 : PgE X6 0 X1 0 := p51.tr hJ6.pg
  have v6 : X6.2 0 8 - X6.2 0 9 = X1.2 0 8 - X1.2 0 9 := by rw [p61.2.1, p61.2.2]
  have sn : ¬ (if X3.1 0 4 = 0 then (1 : Int32) else 0) < 0 := by
    by_cases d : X3.1 0 4 = 0
    · rw [if_pos d]; decide
    · rw [if_neg d]; decide
  unfold f_L_acts
  rw [hl, ob1_s, lk_0, hn.2, ob1_s, hi, ob1_s, if_pos (by decide), if_pos (by decide), if_neg (by decide), if_neg (by decide), if_neg (by decide), if_neg (by decide), if_neg (by decide), if_neg (by decide), if_pos rfl, show f_L_low y 2 X = some (nI c) from cl, ob1_s, lk_3, ob1_s, e1, ob2_s, lk_v2, ob1_s, e2, ob2_s, if_pos a1, e3, ob2_s, if_neg one_0, e4, ob2_s, if_neg sn, e5, ob2_s, if_pos a5, e6, ob2_s, if_pos wb, lk_v2, ob1_s, if_pos v6, x_save2, ob2_s, if_pos rfl]
  exact ⟨X6, rfl, hI6, hn6⟩
theorem a15 (hI : Inv B X) (hn : NP X n) (h0 : 0 < n) (hB : B ≤ 1000000) (hin : i < n) (hl : f_L_low x 16 X = some 15) (hi : f_L_low (y >>> ((1 : Int32) &&& 31)) (nI n) X = some (nI i)) : ∃ X', f_L_acts x y X = some (1, X') ∧ Inv (B + 1) X' ∧ NP X' n := by
  obtain ⟨X1, e1, hI1, hJ1, hn1⟩ := wb_i hI hn h0
  obtain ⟨⟨Y1, hR1⟩, -⟩ := id hI1
  obtain ⟨X2, e2, hI2, hT2, -, hn2⟩ := m_closes hI1 hn1 h0 hB
  obtain ⟨r, X3, e3, r3, hI3, hp⟩ := hI2.undo hT2
  have p30 : PgE X3 0 X 0 := hJ1.pg.tr hp
  have hn3 : NP X3 n := hn.se p30
  obtain ⟨X4, e4, hI4, hJ4, hn4⟩ := wb_i hI3 hn3 h0
  have a3 : X3.1 0 6 = X.1 0 6 := (se_0 p30).2.2.1
  have wb : wbX X3 = wbX X := se_wb p30
  unfold f_L_acts
  rw [hl, ob1_s, lk_0, hn.2, ob1_s, hi, ob1_s, if_pos (by decide), if_pos (by decide), if_neg (by decide), if_neg (by decide), if_neg (by decide), if_neg (by decide), if_neg (by decide), if_neg (by decide), if_neg (by decide), lk_3, ob1_s, e1, ob2_s, lk_8, ob1_s, x_shotN hn1, ob2_s, if_pos rfl, x_shotB hR1 hn1 hin, ob2_s, if_pos rfl, x_set5, ob2_s, if_pos rfl, x_setPoint0, ob2_s, if_pos rfl, lk_rm, ob1_s, if_pos rfl, lk_8, ob1_s, if_pos rfl, e2, ob2_s, if_neg one_0, e3, ob2_s, if_neg r3, lk_3, ob1_s, if_pos a3, e4, ob2_s, if_pos wb]
  exact ⟨X4, rfl, hI4, hn4⟩
theorem m_acts (hI : Inv B X) (hn : NP X n) (h0 : 0 < n) (hB : B ≤ 1000000) : ∃ X', f_L_acts x y X = some (1, X') ∧ Inv (B + 1) X' ∧ NP X' n := by
  have h4 := hn.1
  obtain ⟨h, hh, hl⟩ := low_n (v := x) (n := 16) (X := X) (by decide) (by decide)
  have hl : f_L_low x 16 X = some (nI h) := hl
  obtain ⟨i, hin, hi⟩ := low_n (v := y >>> ((1 : Int32) &&& 31)) (n := n) (X := X) h0 (by omega)
  have d : h < 6 ∨ (6 ≤ h ∧ h < 8) ∨ h = 8 ∨ h = 9 ∨ h = 10 ∨ h = 11 ∨ h = 12 ∨ h = 13 ∨ h = 14 ∨ h = 15 := by omega
  rcases d with d | ⟨d, d2⟩ | rfl | rfl | rfl | rfl | rfl | rfl | rfl | rfl
  · exact a05 hI hn h0 hB d hl hi
  · exact a67 hI hn h0 hB d d2 hl hi
  · exact a8 hI hn hin hl hi
  · exact a9 hI hn h0 hin hl hi
  · exact a10 hI hn hl hi
  · exact a11 hI hn hl hi
  · exact a12 hI hn hin hl hi
  · exact a13 hI hn hin hl hi
  · exact a14 hI hn h0 hB hl hi
  · exact a15 hI hn h0 hB hin hl hi
end ACTS

/-! P33, 12: a shot -/
theorem and_nn (v : Int32) : 0 ≤ (v &&& (2147483647 : Int32)).toInt := by
  have e : (v &&& (2147483647 : Int32)).toBitVec.toNat = v.toBitVec.toNat &&& 2147483647 := by
    rw [Int32.toBitVec_and, BitVec.toNat_and]
    rfl
  have le : v.toBitVec.toNat &&& 2147483647 ≤ 2147483647 := Nat.and_le_right
  show 0 ≤ (v &&& (2147483647 : Int32)).toBitVec.toInt
  rw [BitVec.toInt_eq_toNat_of_lt (by omega)]
  omega
theorem low_v {v n : Int32} {X : Mm} (hn : 0 < n.toInt) : ∃ r, f_L_low v n X = some r ∧ 0 ≤ r.toInt ∧ r.toInt < n.toInt := by
  have h0 := and_nn v
  have h1 := fb_rng (v &&& (2147483647 : Int32))
  have h2 := fb_rng n
  have hne : n ≠ -1 := fun q => by rw [q] at hn; exact absurd hn (by decide)
  have hnz : ¬ n = 0 := fun q => by rw [q] at hn; exact absurd hn (by decide)
  have q0 : ((v &&& (2147483647 : Int32)) / n).toInt = (v &&& (2147483647 : Int32)).toInt / n.toInt := by
    rw [Int32.toInt_div_of_ne_right _ _ hne, Int.tdiv_eq_ediv_of_nonneg h0]
  have k1 : (v &&& (2147483647 : Int32)).toInt / n.toInt * n.toInt ≤ (v &&& (2147483647 : Int32)).toInt := Int.ediv_mul_le _ (by omega)
  have k2 : (v &&& (2147483647 : Int32)).toInt < ((v &&& (2147483647 : Int32)).toInt / n.toInt + 1) * n.toInt := Int.lt_ediv_add_one_mul_self _ hn
  rw [Int.add_mul, Int.one_mul] at k2
  have m1 : ((v &&& (2147483647 : Int32)) / n * n).toInt = (v &&& (2147483647 : Int32)).toInt / n.toInt * n.toInt := by rw [fb_mulI, q0] <;> rw [q0] <;> omega
  have s1 : ((v &&& (2147483647 : Int32)) - (v &&& (2147483647 : Int32)) / n * n).toInt = (v &&& (2147483647 : Int32)).toInt - (v &&& (2147483647 : Int32)).toInt / n.toInt * n.toInt := by rw [fb_subI, m1] <;> rw [m1] <;> omega
  refine ⟨_, by unfold f_L_low; rw [chk_p (decide_eq_true hnz)], ?_, ?_⟩
  · rw [s1]; omega
  · rw [s1]; omega
theorem in_y {a b c : Int32} {X : Mm} (h1 : b ≤ a) (h2 : a ≤ c) : f_X10_isWithin a b c X = some 1 := by
  rcases in_c a b c X X with ⟨-, -, z⟩ | ⟨z, -⟩
  · exact absurd ⟨h1, h2⟩ z
  · exact z
/-- an ideal time -/
theorem idA {X X' : Mm} {L A y : Int32} (l1 : 50 ≤ L.toInt) (l2 : L.toInt ≤ 2000) (x1 : 10 ≤ A.toInt) (x2 : A.toInt ≤ L.toInt) (y1 : -3500 ≤ y.toInt) (y2 : y.toInt ≤ 3500) : ∃ Q, (f_X10_quotient (Int32.toInt64 y * Int32.toInt64 A) (Int32.toInt64 L) X = some Q) ∧ -3500 ≤ Q.toInt ∧ Q.toInt ≤ 3500 := by
  have n0 : ¬ Int32.toInt64 L = 0 := fun q => by
    rw [j_eq, Int32.toInt_toInt64, show (0 : Int64).toInt = 0 from rfl] at q
    omega
  have nm : Int32.toInt64 L ≠ -1 := fun q => by
    have := congrArg Int64.toInt q
    rw [Int32.toInt_toInt64, show (-1 : Int64).toInt = -1 from rfl] at this
    omega
  have p1 : y.toInt * A.toInt ≤ 3500 * A.toInt := Int.mul_le_mul_of_nonneg_right y2 (by omega)
  have p2 : -3500 * A.toInt ≤ y.toInt * A.toInt := Int.mul_le_mul_of_nonneg_right y1 (by omega)
  have q1 : (Int32.toInt64 y * Int32.toInt64 A).toInt = y.toInt * A.toInt := by rw [fb_mulL] <;> rw [Int32.toInt_toInt64, Int32.toInt_toInt64] <;> omega
  have q2 : (Int32.toInt64 y * Int32.toInt64 A / Int32.toInt64 L).toInt = (y.toInt * A.toInt).tdiv L.toInt := by rw [Int64.toInt_div_of_ne_right _ _ nm, q1, Int32.toInt_toInt64]
  have t := tdiv_ab (S := y.toInt * A.toInt) (W := L.toInt) (a := -3500) (b := 3500) (by omega) (by omega) (by omega)
  rw [← q2] at t
  exact ⟨_, quot n0, t.1, t.2⟩
theorem idB {X : Mm} {L c : Int32} {Q : Int64} (l1 : 50 ≤ L.toInt) (l2 : L.toInt ≤ 2000) (c1 : 1450 ≤ c.toInt) (c2 : c.toInt ≤ 1490) (y1 : -3500 ≤ Q.toInt) (y2 : Q.toInt ≤ 3500) : ∃ V, f_X10_quotient (Int32.toInt64 L * (1000000000 : Int64)) (Int32.toInt64 c * (1000 : Int64) + Q) X = some V ∧ 1000 ≤ V.toInt ∧ V.toInt ≤ 1400000 := by
  obtain ⟨z, hz, ez⟩ : ∃ z, z = Int32.toInt64 c * (1000 : Int64) + Q ∧ z.toInt = c.toInt * 1000 + Q.toInt := by
    refine ⟨_, rfl, ?_⟩
    have e3 : (1000 : Int64).toInt = 1000 := rfl
    have m : (Int32.toInt64 c * (1000 : Int64)).toInt = c.toInt * 1000 := by rw [fb_mulL, Int32.toInt_toInt64, e3] <;> (rw [Int32.toInt_toInt64, e3]; omega)
    rw [fb_addL, m] <;> rw [m] <;> omega
  rw [← hz]
  clear hz
  obtain ⟨w, hw, ew⟩ : ∃ w, w = Int32.toInt64 L * (1000000000 : Int64) ∧ w.toInt = L.toInt * 1000000000 := by
    refine ⟨_, rfl, ?_⟩
    have e9 : (1000000000 : Int64).toInt = 1000000000 := rfl
    rw [fb_mulL, Int32.toInt_toInt64, e9] <;> (rw [Int32.toInt_toInt64, e9]; omega)
  rw [← hw]
  clear hw
  have nz : ¬ z = 0 := fun q => by
    rw [j_eq, show (0 : Int64).toInt = 0 from rfl] at q
    omega
  have nz1 : z ≠ -1 := fun q => by
    have := congrArg Int64.toInt q
    rw [show (-1 : Int64).toInt = -1 from rfl] at this
    omega
  have qv : (w / z).toInt = w.toInt.tdiv z.toInt := by rw [Int64.toInt_div_of_ne_right _ _ nz1]
  have u := tdiv_ab (S := w.toInt) (W := z.toInt) (a := 1000) (b := 1400000) (by omega) (by omega) (by omega)
  rw [← qv] at u
  exact ⟨_, quot nz, u.1, u.2⟩
theorem idT {X : Mm} {k : Nat} (hm : MK (X.1 k)) {c y : Int32} (c1 : 1450 ≤ c.toInt) (c2 : c.toInt ≤ 1490) (y1 : -3500 ≤ y.toInt) (y2 : y.toInt ≤ 3500) : ∃ r, f_X3_idealTime k c y X = some r ∧ (X.1 k 4).toInt + 1000 ≤ r.toInt ∧ r.toInt ≤ (X.1 k 4).toInt + 1400000 := by
  obtain ⟨⟨l1, l2⟩, ⟨x1, x2⟩, d0, d1⟩ := hm
  rw [i_le] at d0 d1
  have z0 : (0 : Int32).toInt = 0 := rfl
  have z5 : (5000 : Int32).toInt = 5000 := rfl
  obtain ⟨Q, q1, q2, q3⟩ := idA (X := X) (X' := X) l1 l2 x1 x2 y1 y2
  obtain ⟨V, v1, v2, v3⟩ := idB (X := X) l1 l2 c1 c2 q2 q3
  have tv : (Int64.toInt32 V).toInt = V.toInt := by rw [Int64.toInt_toInt32, fb_bmod (by omega) (by omega)]
  unfold f_X3_idealTime
  rw [show gI X k 0 = X.1 k 0 from rfl, show gI X k 1 = X.1 k 1 from rfl, show gI X k 4 = X.1 k 4 from rfl, q1, ob1_s, lt1_s, v1, ob1_s]
  refine ⟨_, rfl, ?_, ?_⟩
  · rw [fb_addI (by omega) (by omega)]; omega
  · rw [fb_addI (by omega) (by omega)]; omega
theorem idV {X : Mm} {n i : Nat} (hn : NP X n) (hi : i < n) (hm : MK (X.1 (2 + 2 * i))) {c f : Int32} (c1 : 1450 ≤ c.toInt) (c2 : c.toInt ≤ 1490) (y1 : -3500 ≤ f.toInt) (y2 : f.toInt ≤ 3500) : ∃ r w, f_X10_ideal (nI i) c f 0 X = some r ∧ f_X10_ideal (nI i) c (-f) 1 X = some r ∧ f_X10_ideal (nI i) c f 1 X = some w ∧ ((X.1 (2 + 2 * i) 4).toInt + 1000 ≤ r.toInt ∧ r.toInt ≤ (X.1 (2 + 2 * i) 4).toInt + 1400000) ∧ (X.1 (2 + 2 * i) 4).toInt + 1000 ≤ w.toInt ∧ w.toInt ≤ (X.1 (2 + 2 * i) 4).toInt + 1400000 := by
  have h4 := hn.1
  have fn : (-f).toInt = -f.toInt := fb_negI (by omega)
  obtain ⟨r, r1, r2⟩ := idT hm c1 c2 y1 y2
  obtain ⟨w, w1, w2⟩ := idT (y := -f) hm c1 c2 (by omega) (by omega)
  have z1 : (300 : Int32).toInt = 300 := rfl
  have z2 : (3000 : Int32).toInt = 3000 := rfl
  have z3 : (-20000 : Int32).toInt = -20000 := rfl
  have z4 : (20000 : Int32).toInt = 20000 := rfl
  have wc := in_y (X := X) (show (300 : Int32) ≤ c by rw [i_le]; omega) (show c ≤ 3000 by rw [i_le]; omega)
  have wf := in_y (X := X) (show (-20000 : Int32) ≤ f by rw [i_le]; omega) (show f ≤ 20000 by rw [i_le]; omega)
  have wn := in_y (X := X) (show (-20000 : Int32) ≤ -f by rw [i_le]; omega) (show -f ≤ 20000 by rw [i_le]; omega)
  refine ⟨r, w, ?_, ?_, ?_, r2, w2⟩
  · unfold f_X10_ideal
    rw [at_in hn hi, ob1_s, onl_s, chk_p (ks_path (by omega)), wc, ob1_s, if_neg one_0, wf, ob1_s, if_neg one_0, if_pos rfl, ob1_s, r1, ob1_s]
  · unfold f_X10_ideal
    rw [at_in hn hi, ob1_s, onl_s, chk_p (ks_path (by omega)), wc, ob1_s, if_neg one_0, wn, ob1_s, if_neg one_0, if_neg one_0, ob1_s, Int32.neg_neg, r1, ob1_s]
  · unfold f_X10_ideal
    rw [at_in hn hi, ob1_s, onl_s, chk_p (ks_path (by omega)), wc, ob1_s, if_neg one_0, wf, ob1_s, if_neg one_0, if_neg one_0, ob1_s, w1, ob1_s]
theorem SI_sh {B : Nat} {I I' : Nat → Nat → Int32} {J : Nat → Int64} {i : Nat} (hi : i < 4) (h : SI B I J) (he : ∀ o, o ≠ 3 + 2 * i → I' o = I o) (h3 : 0 ≤ (I' (3 + 2 * i) 3).toInt ∧ (I' (3 + 2 * i) 3).toInt ≤ 100) : SI B I' J := by
  obtain ⟨k1, k2, k3, k4⟩ := h
  refine ⟨fun j hj => ?_, ?_, ?_, k4⟩
  · rw [he (2 + 2 * j) (by omega)]
    by_cases c : j = i
    · subst c
      obtain ⟨a, b, c, -⟩ := k1 j hj
      exact ⟨a, b, c, fun _ => h3⟩
    · rw [he (3 + 2 * j) (by omega)]
      exact k1 j hj
  · rw [he 14 (by omega), he 0 (by omega)]
    intro n a b
    obtain ⟨p, q⟩ := k2 n a b
    exact ⟨p, fun k hk => by rw [he (16 + k) (by omega)]; exact q k hk⟩
  · rw [he 0 (by omega)]
    exact k3
def shM (X : Mm) (i : Nat) (u v q : Int32) : Mm := wI (wI (wI (wI X (3 + 2 * i) 0 1) (3 + 2 * i) 1 (if X.1 0 4 = 0 then u else v)) (3 + 2 * i) 2 (if X.1 0 4 = 0 then v else u)) (3 + 2 * i) 3 q
theorem shM_o {X : Mm} {i k : Nat} {u v q : Int32} (hk : k ≠ 3 + 2 * i) : (shM X i u v q).1 k = X.1 k := by
  unfold shM
  rw [wI_o hk, wI_o hk, wI_o hk, wI_o hk]
theorem shM_i {X : Mm} {i : Nat} {u v q : Int32} : (shM X i u v q).1 (3 + 2 * i) 0 = 1 ∧ (shM X i u v q).1 (3 + 2 * i) 1 = (if X.1 0 4 = 0 then u else v) ∧ (shM X i u v q).1 (3 + 2 * i) 2 = (if X.1 0 4 = 0 then v else u) ∧ (shM X i u v q).1 (3 + 2 * i) 3 = q := by
  unfold shM
  refine ⟨?_, ?_, ?_, wI_e⟩
  · rw [wI_k (by decide), wI_k (by decide), wI_k (by decide), wI_e]
  · rw [wI_k (by decide), wI_k (by decide), wI_e]
  · rw [wI_k (by decide), wI_e]
theorem x_shot {X : Mm} {B n i : Nat} {u v q : Int32} (hI : Inv B X) (hn : NP X n) (hi : i < n) (hu : shOK (X.1 (2 + 2 * i) 4) u) (hv : shOK (X.1 (2 + 2 * i) 4) v) (q0 : 0 ≤ q) (q1 : q ≤ 100) : ∃ X' r, f_X10_shot (nI i) u v q X = some (r, X') ∧ f_X10_total 2 X' = some r ∧ Inv B X' ∧ Top X X' ∧
    (X'.1 (3 + 2 * i) 0 = 1 ∧ X'.1 (3 + 2 * i) 1 = (if X.1 0 4 = 0 then u else v) ∧ X'.1 (3 + 2 * i) 2 = (if X.1 0 4 = 0 then v else u) ∧ X'.1 (3 + 2 * i) 3 = q) ∧ ∀ k, k < 28 → k ≠ 3 + 2 * i → X'.1 k = X.1 k := by
  have h4 := hn.1
  obtain ⟨⟨Y, hR⟩, -⟩ := id hI
  obtain ⟨r, X2, Y2, e1, -, hR2⟩ := s_shot (nI i) u v q hR
  obtain ⟨⟨n', hA⟩, -⟩ := hR.pg
  obtain rfl : n' = n := (nI_eq (by have := hA.1; omega) (by omega)).mp (hA.2.1.symm.trans hn.2)
  obtain ⟨⟨-, -, -, d0, d1⟩, -⟩ := hA.2.2.2.1 i hi
  obtain ⟨X1, p1, hI1, kx, hT⟩ := hI.push
  have kx1 : ∀ k, k < 28 → X1.1 k = X.1 k := fun k hk => (kx k (by omega)).1 (by omega)
  have hn1 : NP X1 n' := ⟨h4, by rw [kx1 0 (by decide)]; exact hn.2⟩
  have f1 : f_X10_shotFault (nI i) u v q X = some 0 := by
    rcases x_why (by omega) (at_in hn hi) d0 d1 u v q with ⟨-, z⟩ | ⟨z, -⟩
    · exact z
    · exact absurd ⟨hu, hv, q0, q1⟩ z
  have f2 : f_X10_shotFault (nI i) u v q X1 = some 0 := by
    rcases x_why (by omega) (at_in hn1 hi) (by rw [kx1 _ (by omega)]; exact d0) (by rw [kx1 _ (by omega)]; exact d1) u v q with ⟨-, z⟩ | ⟨z, -⟩
    · exact z
    · rw [kx1 _ (by omega)] at z
      exact absurd ⟨hu, hv, q0, q1⟩ z
  have t1 : f_X8_tellShot (nI i) u v q X1 = some (shM X1 i u v q) := by
    have c3 : 2 + 2 * i + 1 = 3 + 2 * i := by omega
    unfold f_X8_tellShot
    rw [at_in hn1 hi, ob1_s, onl_s, chk_p (ks_path (by omega)), c3]
    simp only [lt1_s]
    simp (disch := omega) only [gI_o]
    show ob1 (if X1.1 0 4 = 0 then some u else some v) _ = _
    unfold shM
    by_cases c : X1.1 0 4 = 0
    · rw [if_pos c, ob1_s]
      show ob1 (if X1.1 0 4 = 0 then some v else some u) _ = _
      rw [if_pos c, ob1_s, if_pos c, if_pos c]
    · rw [if_neg c, ob1_s]
      show ob1 (if X1.1 0 4 = 0 then some v else some u) _ = _
      rw [if_neg c, ob1_s, if_neg c, if_neg c]
  have e2 : f_X10_shot (nI i) u v q X = some (sm (fun i_1 => if (shM X1 i u v q).1 (3 + 2 * i_1) 0 = 0 then 0 else 1) 4, shM X1 i u v q) := by
    unfold f_X10_shot f_X10_takeShot
    rw [f1, ob1_s, if_pos rfl, p1, ob1_s, f2, ob1_s, if_pos rfl, t1, ob1_s, lk_told4, ob1_s, ob2_s]
  obtain ⟨rfl, rfl⟩ := Prod.mk.inj (Option.some.inj (e1.symm.trans e2))
  have hO : Out X1 (shM X1 i u v q) := fun k a b => ⟨shM_o (by omega), rfl⟩
  have si : (shM X1 i u v q).1 (3 + 2 * i) 0 = 1 ∧ (shM X1 i u v q).1 (3 + 2 * i) 1 = (if X.1 0 4 = 0 then u else v) ∧ (shM X1 i u v q).1 (3 + 2 * i) 2 = (if X.1 0 4 = 0 then v else u) ∧ (shM X1 i u v q).1 (3 + 2 * i) 3 = q := by
    have := shM_i (X := X1) (i := i) (u := u) (v := v) (q := q)
    rw [kx1 0 (by decide)] at this
    exact this
  refine ⟨_, _, e2, lk_2, hI1.mod ⟨Y2, hR2⟩ hO ?_ (Nat.le_refl _), hT.keep hO, si, fun k a b => by rw [shM_o b, kx1 k a]⟩
  refine SI_sh (i := i) (by omega) hI1.2.1 (fun o ho => ?_) ?_
  · show (shM X1 i u v q).1 (0 + o) = X1.1 (0 + o)
    rw [Nat.zero_add]
    exact shM_o ho
  · show 0 ≤ ((shM X1 i u v q).1 (0 + (3 + 2 * i)) 3).toInt ∧ ((shM X1 i u v q).1 (0 + (3 + 2 * i)) 3).toInt ≤ 100
    rw [Nat.zero_add, si.2.2.2]
    rw [i_le] at q0 q1
    exact ⟨q0, q1⟩
theorem m_shoots {X : Mm} {B n i : Nat} {x y : Int32} (hI : Inv B X) (hn : NP X n) (hi : i < n) : ∃ X', f_L_shoots (nI i) x y X = some (1, X') ∧ Inv B X' ∧ NP X' n := by
  have h4 := hn.1
  obtain ⟨⟨Y, hR⟩, -⟩ := id hI
  obtain ⟨⟨n', hA⟩, -⟩ := hR.pg
  obtain rfl : n' = n := (nI_eq (by have := hA.1; omega) (by omega)).mp (hA.2.1.symm.trans hn.2)
  have hL := hA.2.2.2.1 i hi
  have hm : MK (X.1 (2 + 2 * i)) := hL.mk
  obtain ⟨⟨-, -, ⟨g0, g1⟩, d0, d1⟩, -⟩ := id hL
  have g0' := g0
  have g1' := g1
  have d0' := d0
  have d1' := d1
  rw [i_le] at g0' g1' d0' d1'
  have z0 : (0 : Int32).toInt = 0 := rfl
  have z5 : (5000 : Int32).toInt = 5000 := rfl
  have z6 : (100 : Int32).toInt = 100 := rfl
  have z7 : (10000 : Int32).toInt = 10000 := rfl
  have z8 : (1000 : Int32).toInt = 1000 := rfl
  have z9 : (9999999 : Int32).toInt = 9999999 := rfl
  obtain ⟨a1, w1, a2, a3⟩ := low_v (v := y) (n := 7001) (X := X) (by decide)
  obtain ⟨a4, w2, a5, a6⟩ := low_v (v := x) (n := 40) (X := X) (by decide)
  have b1 : (7001 : Int32).toInt = 7001 := rfl
  have b2 : (40 : Int32).toInt = 40 := rfl
  have b3 : (3500 : Int32).toInt = 3500 := rfl
  have b4 : (1450 : Int32).toInt = 1450 := rfl
  have fl : (a1 - 3500).toInt = a1.toInt - 3500 := fb_subI (by omega) (by omega)
  have sd : (1450 + a4).toInt = 1450 + a4.toInt := fb_addI (by omega) (by omega)
  obtain ⟨r, w, i1, i2, i3, ⟨r1, r2⟩, u1, u2⟩ := idV (c := 1450 + a4) (f := a1 - 3500) hn hi hm (by omega) (by omega) (by omega) (by omega)
  obtain ⟨a7, w3, -, -⟩ := low_v (v := x >>> ((6 : Int32) &&& 31)) (n := 3) (X := X) (by decide)
  obtain ⟨a8, w4, a9, a10⟩ := low_v (v := x >>> ((8 : Int32) &&& 31)) (n := 5) (X := X) (by decide)
  obtain ⟨q, w5, q0, q1⟩ := low_v (v := x >>> ((3 : Int32) &&& 31)) (n := 101) (X := X) (by decide)
  have b5 : (5 : Int32).toInt = 5 := rfl
  have b6 : (2 : Int32).toInt = 2 := rfl
  have b7 : (101 : Int32).toInt = 101 := rfl
  have p3 : f_X10_path (nI i) 3 X = some (X.1 (2 + 2 * i) 3) := lk_p3 hn hi
  have p4 : f_X10_path (nI i) 4 X = some (X.1 (2 + 2 * i) 4) := lk_p4 hn hi
  have s2 : (a8 - 2).toInt = a8.toInt - 2 := fb_subI (by omega) (by omega)
  have m2 : (a8.toInt - 2) * (X.1 (2 + 2 * i) 3).toInt ≤ 2 * (X.1 (2 + 2 * i) 3).toInt := Int.mul_le_mul_of_nonneg_right (by omega) (by omega)
  have m3 : -2 * (X.1 (2 + 2 * i) 3).toInt ≤ (a8.toInt - 2) * (X.1 (2 + 2 * i) 3).toInt := Int.mul_le_mul_of_nonneg_right (by omega) (by omega)
  have s3 : ((a8 - 2) * X.1 (2 + 2 * i) 3).toInt = (a8.toInt - 2) * (X.1 (2 + 2 * i) 3).toInt := by rw [fb_mulI, s2] <;> rw [s2] <;> omega
  obtain ⟨y9, e9, y91, y92⟩ : ∃ y9, (if a7 = 0 then (ob1 (f_L_low (x >>> ((8 : Int32) &&& 31)) (5 : Int32) X) fun r_10 => some ((r_10 - (2 : Int32)) * X.1 (2 + 2 * i) 3)) else some (0 : Int32)) = some y9 ∧ -20000 ≤ y9.toInt ∧ y9.toInt ≤ 20000 := by
    by_cases c : a7 = 0
    · rw [if_pos c, w4, ob1_s]
      exact ⟨_, rfl, by omega, by omega⟩
    · rw [if_neg c]
      exact ⟨0, rfl, by decide, by decide⟩
  have add : (r + y9).toInt = r.toInt + y9.toInt := fb_addI (by omega) (by omega)
  have add2 : (X.1 (2 + 2 * i) 4 + 1000).toInt = (X.1 (2 + 2 * i) 4).toInt + 1000 := fb_addI (by omega) (by omega)
  have shw : shOK (X.1 (2 + 2 * i) 4) w := ⟨by rw [i_le]; omega, by rw [i_le]; omega⟩
  have shr : shOK (X.1 (2 + 2 * i) 4) r := ⟨by rw [i_le]; omega, by rw [i_le]; omega⟩
  obtain ⟨u, e12, shu⟩ : ∃ u, (if X.1 (2 + 2 * i) 4 + 1000 ≤ r + y9 then some (r + y9) else some r) = some u ∧ shOK (X.1 (2 + 2 * i) 4) u := by
    by_cases c : X.1 (2 + 2 * i) 4 + 1000 ≤ r + y9
    · rw [if_pos c]
      exact ⟨_, rfl, c, by rw [i_le]; omega⟩
    · rw [if_neg c]
      exact ⟨_, rfl, shr⟩
  obtain ⟨X', tv, t1, t2, hI', hT, ⟨k0, k1, k2, k3⟩, hk⟩ := x_shot (q := q) hI hn hi shu shw (by rw [i_le]; omega) (by rw [i_le]; omega)
  have hn' : NP X' n' := ⟨h4, by rw [hk 0 (by decide) (by omega)]; exact hn.2⟩
  have eA : X'.1 (2 + 2 * i) = X.1 (2 + 2 * i) := hk _ (by omega) (by omega)
  have e04 : X'.1 0 4 = X.1 0 4 := by rw [hk 0 (by decide) (by omega)]
  obtain ⟨vv1, vv2, v1, v2, v3, v4, v5⟩ := vel_neg (X' := X') hm (by rw [eA]) (by rw [eA]) (by rw [eA]) shu.tm shw.tm
  have can : ∀ {t : Int32}, shOK (X.1 (2 + 2 * i) 4) t → f_X3_canTake (2 + 2 * i) t X = some 1 ∧ f_X3_canTake (2 + 2 * i) t X' = some 1 := fun {t} ht => by
    refine ⟨?_, ?_⟩
    · rcases x_can (X := X) (k := 2 + 2 * i) (t := t) d0 d1 with ⟨-, z⟩ | ⟨z, -⟩
      · exact z
      · exact absurd ht z
    · rcases x_can (X := X') (k := 2 + 2 * i) (t := t) (by rw [eA]; exact d0) (by rw [eA]; exact d1) with ⟨-, z⟩ | ⟨z, -⟩
      · exact z
      · rw [eA] at z; exact absurd ht z
  have ve1 : f_X10_velocity (nI i) u w X = some vv1 := by
    unfold f_X10_velocity
    rw [at_in hn hi, ob1_s, onl_s, chk_p (ks_path (by omega)), (can shu).1, ob1_s, if_neg one_0, (can shw).1, ob1_s, if_neg one_0, v1, ob1_s]
  have ve2 : f_X10_velocity (nI i) w u X' = some vv2 := by
    unfold f_X10_velocity
    rw [at_in hn' hi, ob1_s, onl_s, chk_p (ks_path (by omega)), (can shw).2, ob1_s, if_neg one_0, (can shu).2, ob1_s, if_neg one_0, v2, ob1_s]
  obtain ⟨r', w', -, j2, -⟩ := idV (X := X') (c := 1450 + a4) (f := a1 - 3500) hn' hi (by rw [eA]; exact hm) (by omega) (by omega) (by omega) (by omega)
  have rr : r' = r := by
    have q1 : f_X10_ideal (nI i) (1450 + a4) (-(a1 - 3500)) 1 X' = f_X10_ideal (nI i) (1450 + a4) (-(a1 - 3500)) 1 X := by
      unfold f_X10_ideal f_X3_idealTime
      rw [at_in hn' hi, at_in hn hi, ob1_s, ob1_s, onl_s, onl_s, chk_p (ks_path (by omega)), chk_p (ks_path (by omega)), show gI X' (2 + 2 * i) = gI X (2 + 2 * i) from eA]
      rfl
    rw [q1, i2] at j2
    exact (Option.some.inj j2).symm
  have vneg : vv1 = -vv2 := by
    rw [i_eq, fb_negI (by omega), v3, Int.neg_neg]
  have l0 : f_X10_told (nI i) 0 X' = some (if X.1 0 4 = 0 then u else w) := by
    refine (lk_t (q := 0) hn' hi (by decide)).trans (congrArg some ?_)
    unfold tdX
    rw [if_neg (by rw [k0]; decide), k1]
  have l1 : f_X10_told (nI i) 1 X' = some (if X.1 0 4 = 0 then w else u) := by
    refine (lk_t (q := 1) hn' hi (by decide)).trans (congrArg some ?_)
    unfold tdX
    rw [if_neg (by rw [k0]; decide), k2]
  have l2 : f_X10_told (nI i) 2 X' = some q := by
    refine (lk_t (q := 2) hn' hi (by decide)).trans (congrArg some ?_)
    unfold tdX
    rw [if_neg (by rw [k0]; decide), k3]
  refine ⟨X', ?_, hI', hn'⟩
  unfold f_L_shoots
  rw [w1, ob1_s, lt1_s, w2, ob1_s, lt1_s, i1, ob1_s, i3, ob1_s, p3, ob1_s, w3, ob1_s, e9, ob1_s, p4, ob1_s, e12, ob1_s, w5, ob1_s, ve1, ob1_s, t1, ob2_s, lk_6, ob1_s, e04]
  rw [j2, rr, ve2, t2, l0, l1, l2]
  simp only [ob1_s]
  by_cases c : X.1 0 4 = 0
  · simp only [if_pos c, if_neg (show ¬ (0 : Int32) = 1 by decide), ob1_s, if_pos rfl, if_pos vneg, if_true, if_false]
  · simp only [if_neg c, if_pos rfl, ob1_s, if_neg one_0, if_pos vneg, if_true, if_false]

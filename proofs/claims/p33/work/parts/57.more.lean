/-! SHOTS' FAULTS, SPEEDS, TIMES, TRUST, TOTALS -/
theorem yes_no {c : Prop} [Decidable c] : (c ∧ (if c then some (1 : Int32) else some 0) = some 1) ∨ (¬ c ∧ (if c then some (1 : Int32) else some 0) = some 0) := by
  by_cases h : c
  · exact Or.inl ⟨h, if_pos h⟩
  · exact Or.inr ⟨h, if_neg h⟩
theorem x_can {X : Mm} {k : Nat} {t : Int32} (h0 : 0 ≤ X.1 k 4) (h1 : X.1 k 4 ≤ 5000) : (shOK (X.1 k 4) t ∧ f_X3_canTake k t X = some 1) ∨ (¬ shOK (X.1 k 4) t ∧ f_X3_canTake k t X = some 0) := by
  have e0 : (0 : Int32).toInt = 0 := rfl
  have e1 : (5000 : Int32).toInt = 5000 := rfl
  have e2 : (1000 : Int32).toInt = 1000 := rfl
  have e3 : (9999999 : Int32).toInt = 9999999 := rfl
  unfold f_X3_canTake f_X3_isLateEnough
  have hd := h0
  have hd1 := h1
  rw [i_le] at hd hd1
  have ha : (X.1 k 4 + 1000).toInt = (X.1 k 4).toInt + 1000 := fb_addI (by omega) (by omega)
  have g : gI X k 4 = X.1 k 4 := rfl
  rcases in_c t 1000 9999999 X X with ⟨w, -, ho⟩ | ⟨w, -, lo, hh⟩
  · rw [w, ob1_s, if_pos rfl]
    refine Or.inr ⟨fun q => ho ⟨?_, q.2⟩, rfl⟩
    have := q.1
    rw [i_le] at this ⊢
    omega
  · rw [w, ob1_s, if_neg one_0, g]
    have lo' := lo
    have hh' := hh
    rw [i_le] at lo' hh'
    have hs : (t - X.1 k 4).toInt = t.toInt - (X.1 k 4).toInt := fb_subI (by omega) (by omega)
    by_cases c : t - X.1 k 4 < 1000
    · rw [if_pos c, ob1_s, if_pos rfl]
      refine Or.inr ⟨fun q => ?_, rfl⟩
      have := q.1
      rw [i_le] at this
      rw [i_lt] at c
      omega
    · rw [if_neg c, ob1_s, if_neg one_0]
      refine Or.inl ⟨⟨?_, hh⟩, rfl⟩
      rw [i_lt] at c
      rw [i_le]
      omega
theorem x_why {X : Mm} {i : Nat} (hi : i < 4) {x1 : Int32} (hp : f_X8_pathAt x1 X = some (some (2 + 2 * i))) (h0 : 0 ≤ X.1 (2 + 2 * i) 4) (h1 : X.1 (2 + 2 * i) 4 ≤ 5000) (x2 x3 x4 : Int32) :
    ((shOK (X.1 (2 + 2 * i) 4) x2 ∧ shOK (X.1 (2 + 2 * i) 4) x3 ∧ 0 ≤ x4 ∧ x4 ≤ 100) ∧ f_X10_shotFault x1 x2 x3 x4 X = some 0) ∨ (¬ (shOK (X.1 (2 + 2 * i) 4) x2 ∧ shOK (X.1 (2 + 2 * i) 4) x3 ∧ 0 ≤ x4 ∧ x4 ≤ 100) ∧ f_X10_shotFault x1 x2 x3 x4 X = some (-2000000002)) := by
  unfold f_X10_shotFault
  rw [hp, ob1_s, onl_s, chk_p (ks_path hi)]
  rcases x_can (t := x2) h0 h1 with ⟨c1, w1⟩ | ⟨c1, w1⟩
  · rcases x_can (t := x3) h0 h1 with ⟨c2, w2⟩ | ⟨c2, w2⟩
    · rcases in_c x4 0 100 X X with ⟨w3, -, c3⟩ | ⟨w3, -, c3⟩
      · rw [w1, w2, w3]
        exact Or.inr ⟨fun q => c3 q.2.2, rfl⟩
      · rw [w1, w2, w3]
        exact Or.inl ⟨⟨c1, c2, c3⟩, rfl⟩
    · rw [w1, w2]
      exact Or.inr ⟨fun q => c2 q.2.1, rfl⟩
  · rw [w1]
    exact Or.inr ⟨fun q => c1 q.1, rfl⟩
theorem y_above {Y : Mm} {i : Nat} (hi : i < 4) {t : Int32} : (Y.1 1 (16 * i + 4) + 1000 ≤ t ∧ f_X11_isAbove (nI i) t Y = some 1) ∨ (¬ Y.1 1 (16 * i + 4) + 1000 ≤ t ∧ f_X11_isAbove (nI i) t Y = some 0) := by
  unfold f_X11_isAbove
  rw [yof4 hi, ob1_s]
  by_cases c : t < Y.1 1 (16 * i + 4) + 1000
  · rw [if_pos c]
    refine Or.inr ⟨fun q => ?_, rfl⟩
    rw [i_lt] at c
    rw [i_le] at q
    omega
  · rw [if_neg c]
    exact Or.inl ⟨i_nlt c, rfl⟩
theorem y_time {Y : Mm} {t : Int32} : ((1000 ≤ t ∧ t ≤ 9999999) ∧ f_X11_isTime t Y = some 1) ∨ (¬ (1000 ≤ t ∧ t ≤ 9999999) ∧ f_X11_isTime t Y = some 0) := by
  unfold f_X11_isTime
  rcases in_c t 1000 9999999 Y Y with ⟨-, w, ho⟩ | ⟨-, w, ho⟩
  · rw [w]; exact Or.inr ⟨ho, rfl⟩
  · rw [w]; exact Or.inl ⟨ho, rfl⟩
theorem y_why {Y : Mm} {i : Nat} (hi : i < 4) {d : Int32} (hd : Y.1 1 (16 * i + 4) = d) (hp : f_X11_isPath (nI i) Y = some 1) (h0 : 0 ≤ d) (h1 : d ≤ 5000) (x2 x3 x4 : Int32) :
    ((shOK d x2 ∧ shOK d x3 ∧ 0 ≤ x4 ∧ x4 ≤ 100) ∧ f_X11_whyShot (nI i) x2 x3 x4 Y = some 0) ∨ (¬ (shOK d x2 ∧ shOK d x3 ∧ 0 ≤ x4 ∧ x4 ≤ 100) ∧ f_X11_whyShot (nI i) x2 x3 x4 Y = some (-2000000002)) := by
  have low : ∀ t, shOK d t → 1000 ≤ t := fun t q => by
    have e0 : (0 : Int32).toInt = 0 := rfl
    have e1 : (5000 : Int32).toInt = 5000 := rfl
    have e2 : (1000 : Int32).toInt = 1000 := rfl
    have hd := h0
    have hd1 := h1
    rw [i_le] at hd hd1
    have ha : (d + 1000).toInt = d.toInt + 1000 := fb_addI (by omega) (by omega)
    have := q.1
    rw [i_le] at this ⊢
    omega
  unfold f_X11_whyShot
  rw [hp, ob1_s, if_neg one_0]
  rcases y_time (Y := Y) (t := x2) with ⟨c1, w1⟩ | ⟨c1, w1⟩
  · rcases y_time (Y := Y) (t := x3) with ⟨c2, w2⟩ | ⟨c2, w2⟩
    · rcases in_c x4 0 100 Y Y with ⟨-, w3, c3⟩ | ⟨-, w3, c3⟩
      · rw [w1, w2, w3]
        exact Or.inr ⟨fun q => c3 q.2.2, rfl⟩
      · rcases y_above (Y := Y) hi (t := x2) with ⟨c4, w4⟩ | ⟨c4, w4⟩
        · rcases y_above (Y := Y) hi (t := x3) with ⟨c5, w5⟩ | ⟨c5, w5⟩
          · rw [w1, w2, w3, w4, w5]
            rw [hd] at c4 c5
            exact Or.inl ⟨⟨⟨c4, c1.2⟩, ⟨c5, c2.2⟩, c3⟩, rfl⟩
          · rw [w1, w2, w3, w4, w5]
            rw [hd] at c5
            exact Or.inr ⟨fun q => c5 q.2.1.1, rfl⟩
        · rw [w1, w2, w3, w4]
          rw [hd] at c4
          exact Or.inr ⟨fun q => c4 q.1.1, rfl⟩
    · rw [w1, w2]
      exact Or.inr ⟨fun q => c2 ⟨low _ q.2.1, q.2.1.2⟩, rfl⟩
  · rw [w1]
    exact Or.inr ⟨fun q => c1 ⟨low _ q.1, q.1.2⟩, rfl⟩
/-- a shot's fault, on both sides -/
theorem s_why {X Y : Mm} {n : Nat} (hA : PA n X.1 (Y.1 1)) (x1 x2 x3 x4 : Int32) :
    (∃ i, i < n ∧ x1 = nI i ∧ (shOK (X.1 (2 + 2 * i) 4) x2 ∧ shOK (X.1 (2 + 2 * i) 4) x3 ∧ 0 ≤ x4 ∧ x4 ≤ 100) ∧ f_X8_pathAt x1 X = some (some (2 + 2 * i)) ∧ f_X10_shotFault x1 x2 x3 x4 X = some 0 ∧ f_X11_whyShot x1 x2 x3 x4 Y = some 0) ∨
    (∃ r, (r = -2000000001 ∨ r = -2000000002) ∧ f_X10_shotFault x1 x2 x3 x4 X = some r ∧ f_X11_whyShot x1 x2 x3 x4 Y = some r) := by
  obtain ⟨hn, hx, hy, hp, -⟩ := hA
  rcases path_c hn hx hy x1 with ⟨i, hi, rfl, e1, e2⟩ | ⟨e1, e2⟩
  · have i4 : i < 4 := by omega
    obtain ⟨⟨-, -, -, d0, d1⟩, ⟨-, -, -, -, b4⟩, -⟩ := hp i hi
    rcases x_why i4 e1 d0 d1 x2 x3 x4 with ⟨c, w⟩ | ⟨c, w⟩
    · rcases y_why i4 b4 e2 d0 d1 x2 x3 x4 with ⟨c', w'⟩ | ⟨c', w'⟩
      · exact Or.inl ⟨i, hi, rfl, c, e1, w, w'⟩
      · exact absurd c c'
    · rcases y_why i4 b4 e2 d0 d1 x2 x3 x4 with ⟨c', w'⟩ | ⟨c', w'⟩
      · exact absurd c' c
      · exact Or.inr ⟨_, Or.inr rfl, w, w'⟩
  · refine Or.inr ⟨-2000000001, Or.inl rfl, ?_, ?_⟩
    · unfold f_X10_shotFault; rw [e1]; rfl
    · unfold f_X11_whyShot; rw [e2]; rfl
theorem s_velocity (x1 x2 x3 : Int32) {X Y : Mm} (h : Rel X Y) : ∃ r, f_X10_velocity x1 x2 x3 X = some r ∧ f_X11_velocity x1 x2 x3 Y = some r := by
  obtain ⟨⟨n, hn, hx, hy, hp, -⟩, -⟩ := h.pg
  unfold f_X10_velocity f_X11_velocity
  rcases path_c hn hx hy x1 with ⟨i, hi, rfl, e1, e2⟩ | ⟨e1, e2⟩
  · have i4 : i < 4 := by omega
    have hL := hp i hi
    obtain ⟨⟨-, -, -, d0, d1⟩, ⟨-, -, -, -, b4⟩, -⟩ := id hL
    rw [e1, ob1_s, onl_s, chk_p (ks_path i4)]
    rcases y_why i4 b4 e2 d0 d1 x2 x3 0 with ⟨⟨c1, c2, -⟩, w'⟩ | ⟨c, w'⟩
    · obtain ⟨v, v1, v2, -⟩ := s_vel i4 hL c1.tm c2.tm
      rcases x_can (t := x2) d0 d1 with ⟨-, w1⟩ | ⟨k1, -⟩
      · rcases x_can (t := x3) d0 d1 with ⟨-, w2⟩ | ⟨k2, -⟩
        · rw [w1, w2, w', ob1_s, ob1_s, ob1_s, if_neg one_0, if_neg one_0, if_pos (by decide), v1, v2]
          exact ⟨v, rfl, rfl⟩
        · exact absurd c2 k2
      · exact absurd c1 k1
    · rw [w']
      refine ⟨-2000000002, ?_, rfl⟩
      rcases x_can (t := x2) d0 d1 with ⟨k1, w1⟩ | ⟨k1, w1⟩
      · rcases x_can (t := x3) d0 d1 with ⟨k2, w2⟩ | ⟨k2, w2⟩
        · exact absurd ⟨k1, k2, by decide, by decide⟩ c
        · rw [w1, w2]; rfl
      · rw [w1]; rfl
  · rw [e1, show f_X11_whyShot x1 x2 x3 0 Y = some (-2000000001) by unfold f_X11_whyShot; rw [e2]; rfl]
    exact ⟨-2000000001, rfl, rfl⟩
theorem s_sound (x1 : Int32) {X Y : Mm} (h : Rel X Y) : ∃ r, f_X10_sound x1 X = some r ∧ f_X11_sound x1 Y = some r := by
  obtain ⟨⟨n, hn, hx, hy, hp, -⟩, -⟩ := h.pg
  unfold f_X10_sound f_X11_sound
  rcases path_c hn hx hy x1 with ⟨i, hi, rfl, e1, e2⟩ | ⟨e1, e2⟩
  · have i4 : i < 4 := by omega
    have hL := hp i hi
    obtain ⟨⟨-, -, -, d0, d1⟩, ⟨b0, -, -, -, b4⟩, -⟩ := id hL
    have b0' : Y.1 1 (16 * i + 0) = X.1 (2 + 2 * i) 0 := b0
    have b4' : Y.1 1 (16 * i + 4) = X.1 (2 + 2 * i) 4 := b4
    rw [e1, e2, ob1_s, ob1_s, onl_s, chk_p (ks_path i4), if_neg one_0, yof5 i4, ob1_s]
    rcases hL.ref with ⟨q1, q2, -⟩ | ⟨q1, q2, q3, q4, q5, q6⟩
    · rw [if_pos (show gI X (2 + 2 * i) 5 = 0 from q1), if_pos q2]
      exact ⟨_, rfl, rfl⟩
    · have q3' : Y.1 1 (16 * i + 5) = X.1 (2 + 2 * i) 6 := q3
      have q4' : Y.1 1 (16 * i + 6) = X.1 (2 + 2 * i) 7 := q4
      have n1 := net_ne d0 d1 q5 q6
      rw [if_neg (show ¬ gI X (2 + 2 * i) 5 = 0 from q1), if_neg q2, yof4 i4, yof6 i4, yof0 i4]
      unfold f_X3_speedOfSound
      simp only [lt1_s, ob1_s]
      rw [q3', q4', b0', b4', chk_p (show decide _ = true from decide_eq_true n1), show gI X (2 + 2 * i) 0 = X.1 (2 + 2 * i) 0 from rfl, show gI X (2 + 2 * i) 4 = X.1 (2 + 2 * i) 4 from rfl, show gI X (2 + 2 * i) 6 = X.1 (2 + 2 * i) 6 from rfl, show gI X (2 + 2 * i) 7 = X.1 (2 + 2 * i) 7 from rfl, quot n1]
      exact ⟨_, rfl, rfl⟩
  · rw [e1, e2, ob1_s, ob1_s, onl_n, if_pos rfl]
    exact ⟨_, rfl, rfl⟩

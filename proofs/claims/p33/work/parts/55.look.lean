/-! LOOKING: both sides answer alike -/
theorem s_path (x1 x2 : Int32) {X Y : Mm} (h : Rel X Y) : ∃ r, f_X10_path x1 x2 X = some r ∧ f_X11_path x1 x2 Y = some r := by
  obtain ⟨⟨n, hn, hx, hy, hp, -⟩, -⟩ := h.pg
  unfold f_X10_path f_X11_path
  rcases path_c hn hx hy x1 with ⟨i, hi, rfl, e1, e2⟩ | ⟨e1, e2⟩
  · have i4 : i < 4 := by omega
    have hL := hp i hi
    obtain ⟨-, ⟨b0, b1, b2, b3, b4⟩, -, -, ⟨b8, b9, b10, b11, b12⟩, -⟩ := id hL
    rw [e1, e2, ob1_s, ob1_s, onl_s, chk_p (ks_path i4), if_neg one_0]
    unfold f_X3_property
    by_cases c0 : x2 = 0
    · subst c0
      exact ⟨X.1 (2 + 2 * i) 0, rfl, by rw [show f_X11_in 0 0 13 Y = some 1 from rfl, ob1_s, if_neg one_0, if_neg (by decide), yof0 i4, ob1_s]; exact congrArg some b0⟩
    by_cases c1 : x2 = 1
    · subst c1
      exact ⟨X.1 (2 + 2 * i) 1, rfl, by rw [show f_X11_in 1 0 13 Y = some 1 from rfl, ob1_s, if_neg one_0, if_neg (by decide), yof1 i4, ob1_s]; exact congrArg some b1⟩
    by_cases c2 : x2 = 2
    · subst c2
      exact ⟨X.1 (2 + 2 * i) 2, rfl, by rw [show f_X11_in 2 0 13 Y = some 1 from rfl, ob1_s, if_neg one_0, if_neg (by decide), yof2 i4, ob1_s]; exact congrArg some b2⟩
    by_cases c3 : x2 = 3
    · subst c3
      exact ⟨X.1 (2 + 2 * i) 3, rfl, by rw [show f_X11_in 3 0 13 Y = some 1 from rfl, ob1_s, if_neg one_0, if_neg (by decide), yof3 i4, ob1_s]; exact congrArg some b3⟩
    by_cases c4 : x2 = 4
    · subst c4
      exact ⟨X.1 (2 + 2 * i) 4, rfl, by rw [show f_X11_in 4 0 13 Y = some 1 from rfl, ob1_s, if_neg one_0, if_neg (by decide), yof4 i4, ob1_s]; exact congrArg some b4⟩
    by_cases c5 : x2 = 5
    · subst c5
      refine ⟨Y.1 1 (16 * i + 5), ?_, by rw [show f_X11_in 5 0 13 Y = some 1 from rfl, ob1_s, if_neg one_0, if_neg (by decide), yof5 i4, ob1_s]⟩
      rw [if_neg (show ¬ (5 : Int32) = 0 by decide), if_neg (show ¬ (5 : Int32) = 1 by decide), if_neg (show ¬ (5 : Int32) = 2 by decide), if_neg (show ¬ (5 : Int32) = 3 by decide), if_neg (show ¬ (5 : Int32) = 4 by decide), if_pos rfl]
      rcases hL.ref with ⟨q, q2, -⟩ | ⟨q, -, q2, -⟩
      · rw [if_pos (show gI X (2 + 2 * i) 5 = 0 from q)]; exact congrArg (fun z => ob1 (some z) fun r => some r) q2.symm
      · rw [if_neg (show ¬ gI X (2 + 2 * i) 5 = 0 from q)]; exact congrArg (fun z => ob1 (some z) fun r => some r) q2.symm
    by_cases c6 : x2 = 6
    · subst c6
      refine ⟨Y.1 1 (16 * i + 6), ?_, by rw [show f_X11_in 6 0 13 Y = some 1 from rfl, ob1_s, if_neg one_0, if_neg (by decide), yof6 i4, ob1_s]⟩
      rw [if_neg (show ¬ (6 : Int32) = 0 by decide), if_neg (show ¬ (6 : Int32) = 1 by decide), if_neg (show ¬ (6 : Int32) = 2 by decide), if_neg (show ¬ (6 : Int32) = 3 by decide), if_neg (show ¬ (6 : Int32) = 4 by decide), if_neg (show ¬ (6 : Int32) = 5 by decide), if_pos rfl]
      rcases hL.ref with ⟨q, -, q2⟩ | ⟨q, -, -, q2, -⟩
      · rw [if_pos (show gI X (2 + 2 * i) 5 = 0 from q)]; exact congrArg (fun z => ob1 (some z) fun r => some r) q2.symm
      · rw [if_neg (show ¬ gI X (2 + 2 * i) 5 = 0 from q)]; exact congrArg (fun z => ob1 (some z) fun r => some r) q2.symm
    by_cases c7 : x2 = 7
    · subst c7
      refine ⟨Y.1 1 (16 * i + 7), ?_, by rw [show f_X11_in 7 0 13 Y = some 1 from rfl, ob1_s, if_neg one_0, if_neg (by decide), yof7 i4, ob1_s]⟩
      rw [if_neg (show ¬ (7 : Int32) = 0 by decide), if_neg (show ¬ (7 : Int32) = 1 by decide), if_neg (show ¬ (7 : Int32) = 2 by decide), if_neg (show ¬ (7 : Int32) = 3 by decide), if_neg (show ¬ (7 : Int32) = 4 by decide), if_neg (show ¬ (7 : Int32) = 5 by decide), if_neg (show ¬ (7 : Int32) = 6 by decide), if_pos rfl]
      rcases hL.rat with ⟨q, q2⟩ | ⟨q, -, q2, -⟩
      · rw [if_pos (show gI X (2 + 2 * i) 8 = 0 from q)]; exact congrArg (fun z => ob1 (some z) fun r => some r) q2.symm
      · rw [if_neg (show ¬ gI X (2 + 2 * i) 8 = 0 from q)]; exact congrArg (fun z => ob1 (some z) fun r => some r) q2.symm
    by_cases c8 : x2 = 8
    · subst c8
      exact ⟨X.1 (2 + 2 * i) 10, rfl, by rw [show f_X11_in 8 0 13 Y = some 1 from rfl, ob1_s, if_neg one_0, if_neg (by decide), yof8 i4, ob1_s]; exact congrArg some b8⟩
    by_cases c9 : x2 = 9
    · subst c9
      exact ⟨X.1 (2 + 2 * i) 11, rfl, by rw [show f_X11_in 9 0 13 Y = some 1 from rfl, ob1_s, if_neg one_0, if_neg (by decide), yof9 i4, ob1_s]; exact congrArg some b9⟩
    by_cases c10 : x2 = 10
    · subst c10
      exact ⟨X.1 (2 + 2 * i) 12, rfl, by rw [show f_X11_in 10 0 13 Y = some 1 from rfl, ob1_s, if_neg one_0, if_neg (by decide), yof10 i4, ob1_s]; exact congrArg some b10⟩
    by_cases c11 : x2 = 11
    · subst c11
      exact ⟨X.1 (2 + 2 * i) 13, rfl, by rw [show f_X11_in 11 0 13 Y = some 1 from rfl, ob1_s, if_neg one_0, if_neg (by decide), yof11 i4, ob1_s]; exact congrArg some b11⟩
    by_cases c12 : x2 = 12
    · subst c12
      exact ⟨X.1 (2 + 2 * i) 14, rfl, by rw [show f_X11_in 12 0 13 Y = some 1 from rfl, ob1_s, if_neg one_0, if_neg (by decide), yof12 i4, ob1_s]; exact congrArg some b12⟩
    by_cases c13 : x2 = 13
    · subst c13
      have b10' : Y.1 1 (16 * i + 10) = X.1 (2 + 2 * i) 12 := b10
      unfold f_X3_fails f_X11_fails
      rw [yof10 i4, show f_X11_in 13 0 13 Y = some 1 from rfl, ob1_s, ob1_s, if_neg one_0, b10']
      by_cases q : X.1 (2 + 2 * i) 12 < 3
      · exact ⟨0, by rw [if_pos (show gI X (2 + 2 * i) 12 < 3 from q)]; rfl, by rw [if_pos q]; rfl⟩
      · exact ⟨1, by rw [if_neg (show ¬ gI X (2 + 2 * i) 12 < 3 from q)]; rfl, by rw [if_neg q]; rfl⟩
    · refine ⟨-2000000002, ?_, ?_⟩
      · rw [if_neg c0, if_neg c1, if_neg c2, if_neg c3, if_neg c4, if_neg c5, if_neg c6, if_neg c7, if_neg c8, if_neg c9, if_neg c10, if_neg c11, if_neg c12, if_neg c13]
        rfl
      · rcases in_c x2 0 13 X Y with ⟨-, w, -⟩ | ⟨-, -, lo, hh⟩
        · rw [w]; rfl
        · exfalso
          obtain ⟨j, hj, rfl⟩ := nI_of2 (n := 13) (M := 13) rfl (fun q => by rw [i_le] at lo; rw [i_lt] at q; omega) hh
          have : j = 0 ∨ j = 1 ∨ j = 2 ∨ j = 3 ∨ j = 4 ∨ j = 5 ∨ j = 6 ∨ j = 7 ∨ j = 8 ∨ j = 9 ∨ j = 10 ∨ j = 11 ∨ j = 12 ∨ j = 13 := by omega
          rcases this with rfl | rfl | rfl | rfl | rfl | rfl | rfl | rfl | rfl | rfl | rfl | rfl | rfl | rfl
          · exact c0 rfl
          · exact c1 rfl
          · exact c2 rfl
          · exact c3 rfl
          · exact c4 rfl
          · exact c5 rfl
          · exact c6 rfl
          · exact c7 rfl
          · exact c8 rfl
          · exact c9 rfl
          · exact c10 rfl
          · exact c11 rfl
          · exact c12 rfl
          · exact c13 rfl
  · rw [e1, e2, ob1_s, ob1_s, onl_n, if_pos rfl]
    exact ⟨_, rfl, rfl⟩
theorem s_told (x1 x2 : Int32) {X Y : Mm} (h : Rel X Y) : ∃ r, f_X10_told x1 x2 X = some r ∧ f_X11_told x1 x2 Y = some r := by
  obtain ⟨⟨n, hn, hx, hy, hp, -⟩, -⟩ := h.pg
  unfold f_X10_told f_X11_told
  rcases path_c hn hx hy x1 with ⟨i, hi, rfl, e1, e2⟩ | ⟨e1, e2⟩
  · have i4 : i < 4 := by omega
    have hL := hp i hi
    rw [e1, e2, ob1_s, ob1_s, onl_s, chk_p (ks_path i4), if_neg one_0]
    rcases in_c x2 0 2 X Y with ⟨w1, w2, -⟩ | ⟨w1, w2, lo, hh⟩
    · rw [w1, w2, ob1_s, ob1_s, if_pos rfl, if_pos rfl]
      exact ⟨_, rfl, rfl⟩
    · rw [w1, w2, ob1_s, ob1_s, if_neg one_0, if_neg one_0, yof13 i4, ob1_s, show 2 + 2 * i + 1 = 3 + 2 * i by omega]
      rcases hL.sho with ⟨q, q2⟩ | ⟨q, -, q2, s1, s2, s3, -⟩
      · rw [if_pos (show gI X (3 + 2 * i) 0 = 0 from q), if_pos q2]
        exact ⟨_, rfl, rfl⟩
      · rw [if_neg (show ¬ gI X (3 + 2 * i) 0 = 0 from q), if_neg q2]
        obtain ⟨j, hj, rfl⟩ := nI_of2 (n := 2) (M := 2) rfl (fun q => by rw [i_le] at lo; rw [i_lt] at q; omega) hh
        have : j = 0 ∨ j = 1 ∨ j = 2 := by omega
        rcases this with rfl | rfl | rfl
        · rw [show (13 : Int32) + nI 0 = 13 from rfl, yof13 i4, ob1_s, if_pos (show nI 0 = (0 : Int32) from rfl)]
          exact ⟨_, rfl, congrArg some s1⟩
        · rw [show (13 : Int32) + nI 1 = 14 from rfl, yof14 i4, ob1_s, if_neg (show ¬ nI 1 = (0 : Int32) by decide), if_pos (show nI 1 = (1 : Int32) from rfl)]
          exact ⟨_, rfl, congrArg some s2⟩
        · rw [show (13 : Int32) + nI 2 = 15 from rfl, yof15 i4, ob1_s, if_neg (show ¬ nI 2 = (0 : Int32) by decide), if_neg (show ¬ nI 2 = (1 : Int32) by decide)]
          exact ⟨_, rfl, congrArg some s3⟩
  · rw [e1, e2, ob1_s, ob1_s, onl_n, if_pos rfl]
    exact ⟨_, rfl, rfl⟩
theorem s_volume (x1 : Int32) {X Y : Mm} (h : Rel X Y) : ∃ r, f_X10_volume x1 X = some r ∧ f_X11_volume x1 Y = some r := by
  obtain ⟨-, -, -, -, -, -, v0, v1⟩ := h.pg
  unfold f_X10_volume f_X11_volume
  rcases in_c x1 0 2 X Y with ⟨-, w2, ho⟩ | ⟨-, w2, lo, hh⟩
  · rw [w2, ob1_s, if_pos rfl, if_neg (fun q => ho (by subst q; decide)), if_neg (fun q => ho (by subst q; decide)), if_neg (fun q => ho (by subst q; decide))]
    exact ⟨_, rfl, rfl⟩
  · rw [w2, ob1_s, if_neg one_0]
    obtain ⟨j, hj, rfl⟩ := nI_of2 (n := 2) (M := 2) rfl (fun q => by rw [i_le] at lo; rw [i_lt] at q; omega) hh
    have : j = 0 ∨ j = 1 ∨ j = 2 := by omega
    rcases this with rfl | rfl | rfl
    · exact ⟨Y.2 2 0, congrArg some v0.symm, rfl⟩
    · exact ⟨Y.2 2 1, congrArg some v1.symm, rfl⟩
    · refine ⟨Y.2 2 0 - Y.2 2 1, ?_, rfl⟩
      rw [v0, v1]
      rfl
theorem s_round (x1 x2 : Int32) {X Y : Mm} (h : Rel X Y) : ∃ r, f_X10_round x1 x2 X = some r ∧ f_X11_round x1 x2 Y = some r := by
  obtain ⟨-, -, -, ⟨n, hn, hx, hy, hR, -⟩, -⟩ := h.pg
  have hx' : gI X 14 1 = nI n := hx
  have hy' : gI Y 1 86 = nI n := hy
  unfold f_X10_round f_X11_round f_X6_latest
  rw [hx', hy']
  have e : ∀ x : Int32, (nI n - 1 < x) ↔ nI n ≤ x := fun x => by
    rw [i_lt, i_le, show nI n - (1 : Int32) = nI n - nI 1 from rfl, pk_sub_toInt (by omega) (by decide), nI_toInt (by omega)]
    omega
  by_cases h0 : x1 < 0
  · rw [if_pos h0, show f_X11_in x1 0 (nI n - 1) Y = some 0 from if_pos h0]
    exact ⟨_, rfl, rfl⟩
  · rw [if_neg h0]
    by_cases h1 : nI n ≤ x1
    · rw [if_pos h1, show f_X11_in x1 0 (nI n - 1) Y = some 0 from (if_neg h0).trans (if_pos ((e x1).mpr h1))]
      exact ⟨_, rfl, rfl⟩
    · rw [if_neg h1, show f_X11_in x1 0 (nI n - 1) Y = some 1 from (if_neg h0).trans (if_neg (fun q => h1 ((e x1).mp q)))]
      obtain ⟨i, hi, rfl⟩ := nI_of h0
      have hin : i < n := by
        rcases Nat.lt_or_ge i n with q | q
        · exact q
        · exact absurd (nI_le q hi) h1
      rw [if_neg (show ¬ (12 : Int32) ≤ nI i from nI_ge (b := 12) (by omega) (by decide)), chk_p (inb_n (by omega) (by decide)), ob1_s, ob1_s, onl_s, if_neg one_0, show (15 : Nat) = 0 + 14 + 1 from rfl, rid51 (by omega), Nat.zero_add]
      have hk : decide (KS true (16 + i) = 5) = true := by
        have : ∀ i, i < 12 → decide (KS true (16 + i) = 5) = true := by decide
        exact this i (by omega)
      rw [chk_p hk]
      rcases in_c x2 0 5 X Y with ⟨-, w2, ho⟩ | ⟨-, w2, lo, hh⟩
      · rw [w2, ob1_s, if_pos rfl, if_neg (fun q => ho (by subst q; decide)), if_neg (fun q => ho (by subst q; decide)), if_neg (fun q => ho (by subst q; decide)), if_neg (fun q => ho (by subst q; decide)), if_neg (fun q => ho (by subst q; decide)), if_neg (fun q => ho (by subst q; decide))]
        exact ⟨_, rfl, rfl⟩
      · rw [w2, ob1_s, if_neg one_0]
        obtain ⟨j, hj, rfl⟩ := nI_of2 (n := 5) (M := 5) rfl (fun q => by rw [i_le] at lo; rw [i_lt] at q; omega) hh
        have ev : (87 : Int32) + (6 : Int32) * nI i + nI j = nI (87 + 6 * i + j) := by
          rw [show (6 : Int32) * nI i = nI (6 * i) from nI_mul 6 i, show (87 : Int32) + nI (6 * i) = nI (87 + 6 * i) from nI_add 87 _, nI_add]
        rw [ev, chk_p (inb_n (by omega) (by decide)), ix_n (by omega)]
        have hr := hR i (by omega) j (by omega)
        have : j = 0 ∨ j = 1 ∨ j = 2 ∨ j = 3 ∨ j = 4 ∨ j = 5 := by omega
        rcases this with rfl | rfl | rfl | rfl | rfl | rfl
        · exact ⟨_, rfl, congrArg some hr⟩
        · exact ⟨_, rfl, congrArg some hr⟩
        · exact ⟨_, rfl, congrArg some hr⟩
        · exact ⟨_, rfl, congrArg some hr⟩
        · exact ⟨_, rfl, congrArg some hr⟩
        · exact ⟨_, rfl, congrArg some hr⟩

/-! THE SIMPLE METHODS: both sides answer alike, and stay alike -/
theorem no_lit : (-2000000005 : Int32).toInt = -2000000005 := rfl
theorem tm_no {d t : Int32} (h0 : 0 ≤ d) (h1 : d ≤ 5000) (h : d + 1000 ≤ t) : ¬ t = -2000000005 := by
  intro q
  subst q
  rw [i_le] at h0 h1
  rw [i_le, fb_addI] at h
  all_goals (have e0 : (0 : Int32).toInt = 0 := rfl; have e1 : (5000 : Int32).toInt = 5000 := rfl; have e2 : (1000 : Int32).toInt = 1000 := rfl; have e3 := no_lit; omega)
/-- what a path's row says, in the words that the methods ask with -/
theorem PL.ref {A S p : Nat → Int32} (h : PL A S p) : (A 5 = 0 ∧ p 5 = -2000000005 ∧ p 6 = -2000000005) ∨ (¬ A 5 = 0 ∧ ¬ p 5 = -2000000005 ∧ p 5 = A 6 ∧ p 6 = A 7 ∧ tmOK (A 4) (A 6) ∧ tmOK (A 4) (A 7)) := by
  rcases h.2.2.1 with q | ⟨q, q2, q3, q4, q5⟩
  · exact Or.inl q
  · refine Or.inr ⟨fun c => one_0 (q.symm.trans c), ?_, q2, q3, q4, q5⟩
    rw [q2]
    exact tm_no h.1.2.2.2.1 h.1.2.2.2.2 q4.1
theorem PL.rat {A S p : Nat → Int32} (h : PL A S p) : (A 8 = 0 ∧ p 7 = -2000000005) ∨ (¬ A 8 = 0 ∧ ¬ p 7 = -2000000005 ∧ p 7 = A 9 ∧ -5000 ≤ A 9 ∧ A 9 ≤ 5000) := by
  rcases h.2.2.2.1 with q | ⟨q, q2, q3, q4⟩
  · exact Or.inl q
  · refine Or.inr ⟨fun c => one_0 (q.symm.trans c), ?_, q2, q3, q4⟩
    rw [q2]
    intro c
    rw [c] at q3
    revert q3
    decide
theorem PL.sho {A S p : Nat → Int32} (h : PL A S p) : (S 0 = 0 ∧ p 13 = -2000000005) ∨ (¬ S 0 = 0 ∧ S 0 = 1 ∧ ¬ p 13 = -2000000005 ∧ p 13 = S 1 ∧ p 14 = S 2 ∧ p 15 = S 3 ∧ shOK (A 4) (S 1) ∧ shOK (A 4) (S 2)) := by
  rcases h.2.2.2.2.2 with q | ⟨q, q2, q3, q4, q5, q6⟩
  · exact Or.inl q
  · refine Or.inr ⟨fun c => one_0 (q.symm.trans c), q, ?_, q2, q3, q4, q5, q6⟩
    rw [q2]
    exact tm_no h.1.2.2.2.1 h.1.2.2.2.2 q5.1
theorem Rest_pages {X Y X' Y' : Mm} (hx : ∀ k, 28 ≤ k → X'.1 k = X.1 k ∧ X'.2 k = X.2 k) (hy : ∀ a, a ≠ 1 → Y'.1 a = Y.1 a) (hy2 : ∀ a, a ≠ 2 → Y'.2 a = Y.2 a) (h : Rest X Y) : Rest X' Y' :=
  Rest_keep (fun k h1 _ => hx k h1) ⟨congrFun (hy 0 (by decide)) 4, congrFun (hy 0 (by decide)) 9⟩ (fun a ha => hy a (by omega)) (fun a ha => hy2 a (by omega)) h
theorem s_setWeight (x1 x2 : Int32) {X Y : Mm} (h : Rel X Y) : ∃ r X' Y', f_X10_setWeight x1 x2 X = some (r, X') ∧ f_X11_setWeight x1 x2 Y = some (r, Y') ∧ Rel X' Y' := by
  obtain ⟨⟨n, hn, hx, hy, -⟩, -⟩ := h.pg
  unfold f_X10_setWeight f_X11_setWeight
  rcases path_c hn hx hy x1 with ⟨i, hi, rfl, e1, e2⟩ | ⟨e1, e2⟩
  · have i4 : i < 4 := by omega
    rw [e1, e2, ob1_s, ob1_s, onl_s, chk_p (ks_path i4), if_neg one_0]
    rcases in_c x2 1 1000 X Y with ⟨w1, w2, -⟩ | ⟨w1, w2, lo, hh⟩
    · rw [w1, w2, ob1_s, ob1_s, if_pos rfl, if_pos rfl]
      exact ⟨_, _, _, rfl, rfl, h⟩
    · rw [w1, w2, ob1_s, ob1_s, if_neg one_0, if_neg one_0, chk_p (stb_path i4)]
      obtain ⟨X1, Y1, p1, p2, kx, ky, h1⟩ := s_push h
      rw [p1, p2, ob1_s, ob1_s, yof2 i4, ob1_s, ylay2 i4, ob1_s, lt1_s, lt1_s]
      have hG := h1.pg
      obtain ⟨n', hA⟩ := hG.1
      obtain rfl : n' = n := (nI_eq (by have := hA.1; omega) (by omega)).mp (hA.2.1.symm.trans ((congrFun ((kx 0 (by omega)).1 (by decide)) 1).trans hx))
      have hL := hA.2.2.2.1 i hi
      refine ⟨_, _, _, rfl, congrArg (fun z => some (z, wI Y1 1 (16 * i + 2) x2)) hL.2.1.2.2.1, Rel.of (PG_pa hG (fun j _ => ?_) (fun o h1 h2 => ?_) (fun k h1 h2 => ?_) ⟨n', PA_set hA ?_ ?_ (fun q hq hqi => ⟨?_, ?_⟩) (fun q hq hqi k hk => ?_) hi ?_⟩) (Rest_pages (X := X1) (Y := Y1) (fun k hk => ⟨?_, rfl⟩) (fun a ha => ?_) (fun _ _ => rfl) h1.rest)⟩
      · exact congrFun (wI_o (by omega)) j
      · exact wI_o (by omega)
      · exact wI_k (by omega)
      · exact congrFun (wI_o (by omega)) 1
      · exact wI_k (by omega)
      · exact wI_o (by omega)
      · exact wI_o (by omega)
      · exact wI_k (by omega)
      · obtain ⟨⟨a1, -, a3⟩, ⟨b0, b1, b2, b3, b4⟩, b5, b6, b7, b8⟩ := hL
        have kS : ∀ j, (wI X1 (2 + 2 * i) 2 x2).1 (3 + 2 * i) j = X1.1 (3 + 2 * i) j := fun j => congrFun (wI_o (by omega)) j
        have kA : ∀ j, j ≠ 2 → (wI X1 (2 + 2 * i) 2 x2).1 (2 + 2 * i) j = X1.1 (2 + 2 * i) j := fun j hj => wI_k hj
        have kP : ∀ j, j ≠ 2 → (wI Y1 1 (16 * i + 2) x2).1 1 (16 * i + j) = Y1.1 1 (16 * i + j) := fun j hj => wI_k (by omega)
        unfold PL
        simp only [kS, kA 0 (by decide), kA 1 (by decide), kA 3 (by decide), kA 4 (by decide), kA 5 (by decide), kA 6 (by decide), kA 7 (by decide), kA 8 (by decide), kA 9 (by decide), kA 10 (by decide), kA 11 (by decide), kA 12 (by decide), kA 13 (by decide), kA 14 (by decide), kP 0 (by decide), kP 1 (by decide), kP 3 (by decide), kP 4 (by decide), kP 5 (by decide), kP 6 (by decide), kP 7 (by decide), kP 8 (by decide), kP 9 (by decide), kP 10 (by decide), kP 11 (by decide), kP 12 (by decide), kP 13 (by decide), kP 14 (by decide), kP 15 (by decide), wI_e]
        exact ⟨⟨a1, ⟨lo, hh⟩, a3⟩, ⟨b0, b1, by trivial, b3, b4⟩, b5, b6, b7, b8⟩
      · exact wI_o (by omega)
      · exact wI_o ha
  · rw [e1, e2, ob1_s, ob1_s, onl_n, if_pos rfl]
    exact ⟨_, _, _, rfl, rfl, h⟩
theorem s_forget (x1 : Int32) {X Y : Mm} (h : Rel X Y) : ∃ r X' Y', f_X10_forget x1 X = some (r, X') ∧ f_X11_forget x1 Y = some (r, Y') ∧ Rel X' Y' := by
  obtain ⟨⟨n, hn, hx, hy, -⟩, -⟩ := h.pg
  unfold f_X10_forget f_X11_forget
  rcases path_c hn hx hy x1 with ⟨i, hi, rfl, e1, e2⟩ | ⟨e1, e2⟩
  · have i4 : i < 4 := by omega
    rw [e1, e2, ob1_s, ob1_s, onl_s, chk_p (ks_path i4), if_neg one_0, chk_p (stb_path i4)]
    obtain ⟨X1, Y1, p1, p2, kx, ky, h1⟩ := s_push h
    have hG := h1.pg
    obtain ⟨n', hA⟩ := hG.1
    obtain rfl : n' = n := (nI_eq (by have := hA.1; omega) (by omega)).mp (hA.2.1.symm.trans ((congrFun ((kx 0 (by omega)).1 (by decide)) 1).trans hx))
    have hL := hA.2.2.2.1 i hi
    obtain ⟨r, q1, q2⟩ : ∃ r, f_X10_asNumber (gI X1 (2 + 2 * i) 5) X1 = some r ∧ (if Y1.1 1 (16 * i + 5) = (-2000000005 : Int32) then some (0 : Int32) else some (1 : Int32)) = some r := by
      unfold f_X10_asNumber
      rcases hL.ref with ⟨c1, c2, -⟩ | ⟨c1, c2, -⟩
      · rw [if_pos (show gI X1 (2 + 2 * i) 5 = 0 from c1), if_pos c2]
        exact ⟨_, rfl, rfl⟩
      · rw [if_neg (show ¬ gI X1 (2 + 2 * i) 5 = 0 from c1), if_neg c2]
        exact ⟨_, rfl, rfl⟩
    rw [p1, p2, ob1_s, ob1_s, yof5 i4, ob1_s, q1, q2, ob1_s, ob1_s, ylay5 i4, ob1_s, ylay6 i4, ob1_s, ylay7 i4, ob1_s, lt1_s, lt1_s]
    refine ⟨_, _, _, rfl, rfl, Rel.of (PG_pa hG (fun j _ => ?_) (fun o h1 h2 => ?_) (fun k h1 h2 => ?_) ⟨n', PA_set hA ?_ ?_ (fun q hq hqi => ⟨?_, ?_⟩) (fun q hq hqi k hk => ?_) hi ?_⟩) (Rest_pages (X := X1) (Y := Y1) (fun k hk => ⟨?_, rfl⟩) (fun a ha => ?_) (fun _ _ => rfl) h1.rest)⟩
    · rw [wI_o (by omega), wI_o (by omega)]
    · rw [wI_o (by omega), wI_o (by omega)]
    · rw [wI_k (by omega), wI_k (by omega), wI_k (by omega)]
    · rw [wI_o (by omega), wI_o (by omega)]
    · rw [wI_k (by omega), wI_k (by omega), wI_k (by omega)]
    · rw [wI_o (by omega), wI_o (by omega)]
    · rw [wI_o (by omega), wI_o (by omega)]
    · rw [wI_k (by omega), wI_k (by omega), wI_k (by omega)]
    · obtain ⟨a0, ⟨b0, b1, b2, b3, b4⟩, b5, b6, b7, b8⟩ := hL
      have kS : ∀ j, (wI (wI X1 (2 + 2 * i) 5 0) (2 + 2 * i) 8 0).1 (3 + 2 * i) j = X1.1 (3 + 2 * i) j := fun j => by rw [wI_o (by omega), wI_o (by omega)]
      have kA : ∀ j, j ≠ 5 → j ≠ 8 → (wI (wI X1 (2 + 2 * i) 5 0) (2 + 2 * i) 8 0).1 (2 + 2 * i) j = X1.1 (2 + 2 * i) j := fun j hj hj2 => by rw [wI_k hj2, wI_k hj]
      have kP : ∀ j, j ≠ 5 → j ≠ 6 → j ≠ 7 → (wI (wI (wI Y1 1 (16 * i + 5) (-2000000005)) 1 (16 * i + 6) (-2000000005)) 1 (16 * i + 7) (-2000000005)).1 1 (16 * i + j) = Y1.1 1 (16 * i + j) := fun j h5 h6 h7 => by rw [wI_k (by omega), wI_k (by omega), wI_k (by omega)]
      have z5 : (wI (wI X1 (2 + 2 * i) 5 0) (2 + 2 * i) 8 0).1 (2 + 2 * i) 5 = 0 := by rw [wI_k (by decide), wI_e]
      have z8 : (wI (wI X1 (2 + 2 * i) 5 0) (2 + 2 * i) 8 0).1 (2 + 2 * i) 8 = 0 := wI_e
      have y5 : (wI (wI (wI Y1 1 (16 * i + 5) (-2000000005)) 1 (16 * i + 6) (-2000000005)) 1 (16 * i + 7) (-2000000005)).1 1 (16 * i + 5) = -2000000005 := by rw [wI_k (by omega), wI_k (by omega), wI_e]
      have y6 : (wI (wI (wI Y1 1 (16 * i + 5) (-2000000005)) 1 (16 * i + 6) (-2000000005)) 1 (16 * i + 7) (-2000000005)).1 1 (16 * i + 6) = -2000000005 := by rw [wI_k (by omega), wI_e]
      have y7 : (wI (wI (wI Y1 1 (16 * i + 5) (-2000000005)) 1 (16 * i + 6) (-2000000005)) 1 (16 * i + 7) (-2000000005)).1 1 (16 * i + 7) = -2000000005 := wI_e
      unfold PL
      simp only [kS, kA 0 (by decide) (by decide), kA 1 (by decide) (by decide), kA 2 (by decide) (by decide), kA 3 (by decide) (by decide), kA 4 (by decide) (by decide), kA 10 (by decide) (by decide), kA 11 (by decide) (by decide), kA 12 (by decide) (by decide), kA 13 (by decide) (by decide), kA 14 (by decide) (by decide), kP 0 (by decide) (by decide) (by decide), kP 1 (by decide) (by decide) (by decide), kP 2 (by decide) (by decide) (by decide), kP 3 (by decide) (by decide) (by decide), kP 4 (by decide) (by decide) (by decide), kP 8 (by decide) (by decide) (by decide), kP 9 (by decide) (by decide) (by decide), kP 10 (by decide) (by decide) (by decide), kP 11 (by decide) (by decide) (by decide), kP 12 (by decide) (by decide) (by decide), kP 13 (by decide) (by decide) (by decide), kP 14 (by decide) (by decide) (by decide), kP 15 (by decide) (by decide) (by decide), z5, z8, y5, y6, y7]
      exact ⟨a0, ⟨b0, b1, b2, b3, b4⟩, Or.inl ⟨by trivial, by trivial, by trivial⟩, Or.inl ⟨by trivial, by trivial⟩, b7, b8⟩
    · rw [wI_o (by omega), wI_o (by omega)]
    · rw [wI_o ha, wI_o ha, wI_o ha]
  · rw [e1, e2, ob1_s, ob1_s, onl_n, if_pos rfl]
    exact ⟨_, _, _, rfl, rfl, h⟩

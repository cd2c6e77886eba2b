/-! THE READERS, 11: an act carried out; run -/
theorem err0 {r : Int32} {M : Mm} (h1 : ¬ r = -2000000001) (h2 : ¬ r = -2000000002) (h3 : ¬ r = -2000000003) (h4 : ¬ r = -2000000004) : f_X10_isError r M = some 0 := by
  unfold f_X10_isError
  rw [if_neg h1, if_neg h2, if_neg h3, if_neg h4]
theorem err_pos {r : Int32} {M : Mm} (h : -1000000 ≤ r) : f_X10_isError r M = some 0 :=
  err0 (fun z => absurd h (by rw [z]; decide)) (fun z => absurd h (by rw [z]; decide)) (fun z => absurd h (by rw [z]; decide)) (fun z => absurd h (by rw [z]; decide))
theorem err_no {M : Mm} : f_X10_isError (-2000000005) M = some 0 := err0 (by decide) (by decide) (by decide) (by decide)
theorem err_bad {r : Int32} {M : Mm} (h : r = -2000000001 ∨ r = -2000000002 ∨ r = -2000000003) : f_X10_isError r M = some 1 := by
  rcases h with rfl | rfl | rfl <;> rfl
theorem St.fr {t p d : Nat} {M N M' N' : Mm} (h : St t p 0 M N) (a : ∀ k, 28 ≤ k → k < 232 → M'.1 k = M.1 k) (b8 : N'.1 8 = N.1 8) (b9 : N'.1 0 9 = N.1 0 9) (b21 : N'.1 0 21 = N.1 0 21) (hd : d = 0) : St t p d M' N' := by
  subst hd
  obtain ⟨⟨t1, t2, t3, t4⟩, s2, s3, s4, s5, -⟩ := h
  refine ⟨⟨t1, (congrFun (a 230 (by decide) (by decide)) 1).trans t2, b9.trans t3, fun k hk => ?_⟩, s2, (congrFun (a 229 (by decide) (by decide)) 1).trans s3, (congrFun (a 229 (by decide) (by decide)) 2).trans s4, b21.trans s5, fun j hj => absurd hj (by omega)⟩
  rw [a 231 (by decide) (by decide), b8]
  exact t4 k hk
theorem neg1m {r : Int32} (h : 0 ≤ r) : (-1000000 : Int32) ≤ r := by
  rw [i_le] at h ⊢
  have u0 : (0 : Int32).toInt = 0 := rfl
  have u1 : (-1000000 : Int32).toInt = -1000000 := rfl
  omega
theorem s_act {M N : Mm} {t p : Nat} (h : Rel M N) (hS : St t p 0 M N) (h4 : gI M 229 3 = 115 → St t p 4 M N) (hl : gI N 0 22 = gI M 229 3) (hL : isLet (gI M 229 3)) :
    (∃ r M' N', f_X10_carryOutAct M = some (r, M') ∧ f_X10_isError r M' = some 0 ∧ f_X11_does N = some (1, N') ∧ Rel M' N' ∧ St t p 0 M' N' ∧ N'.1 8 = N.1 8) ∨
    (∃ r, f_X10_carryOutAct M = some (r, M) ∧ f_X10_isError r M = some 1 ∧ f_X11_does N = some (0, N)) := by
  unfold f_X10_carryOutAct f_X11_does
  rw [lt1_s, hl]
  generalize hc : gI M 229 3 = c at *
  rcases hL with rfl | rfl | rfl
  · -- a shot
    rw [if_neg (show ¬ (115 : Int32) = 99 by decide), if_pos (show (115 : Int32) = 115 from rfl), if_pos (show (115 : Int32) = 115 from rfl)]
    obtain ⟨-, -, -, -, -, q⟩ := h4 rfl
    have e0 : gI N 15 0 = gI M 229 4 := (q 0 (by decide)).symm
    have e1 : gI N 15 1 = gI M 229 5 := (q 1 (by decide)).symm
    have e2 : gI N 15 2 = gI M 229 6 := (q 2 (by decide)).symm
    have e3 : gI N 15 3 = gI M 229 7 := (q 3 (by decide)).symm
    rw [e0, e1, e2, e3]
    generalize gI M 229 4 = x1
    generalize gI M 229 5 = x2
    generalize gI M 229 6 = x3
    generalize gI M 229 7 = x4
    obtain ⟨⟨n, hA⟩, -⟩ := h.pg
    rcases s_why hA x1 x2 x3 x4 with ⟨i, hi, rfl, cd, pa, w1, w2⟩ | ⟨r, hr, w1, w2⟩
    · obtain ⟨r, X', Y', q1, q2, q3, ⟨q4, q5⟩, q6⟩ := s_takes h hA hi cd.1 cd.2.1 pa w1
      rw [q1, w2, ob2_s, ob1_s, if_pos (Int32.le_refl _), q2, ob2_s]
      refine Or.inl ⟨r, X', Y', rfl, err_pos (neg1m q6), rfl, q3, hS.fr (fun k k1 k2 => q4 k k1) (q5 8 (by decide)) (congrFun (q5 0 (by decide)) 9) (congrFun (q5 0 (by decide)) 21) rfl, q5 8 (by decide)⟩
    · have t1 : f_X10_takeShot x1 x2 x3 x4 M = some (r, M) := by
        unfold f_X10_takeShot
        rw [w1, ob1_s, if_neg (by rcases hr with rfl | rfl <;> decide)]
      rw [t1, w2, ob2_s, ob1_s, if_neg (by rcases hr with rfl | rfl <;> decide)]
      exact Or.inr ⟨r, rfl, err_bad (by rcases hr with z | z; exact Or.inl z; exact Or.inr (Or.inl z)), rfl⟩
  · -- a round closed
    rw [if_pos (show (99 : Int32) = 99 from rfl), if_neg (show ¬ (99 : Int32) = 115 by decide), if_pos (show (99 : Int32) = 99 from rfl)]
    obtain ⟨⟨n, hn, hx, hy, -⟩, -⟩ := h.pg
    rw [show gI N 1 64 = nI n from hy]
    by_cases z : nI n = 0
    · rw [if_pos z]
      have e : f_X10_closeRound M = some (-2000000003, M) := by
        unfold f_X10_closeRound
        rw [if_pos (show gI M 0 1 = 0 from (show gI M 0 1 = nI n from hx).trans z)]
      rw [e, ob2_s]
      exact Or.inr ⟨_, rfl, rfl, rfl⟩
    · rw [if_neg z, if_pos (show (99 : Int32) = 99 from rfl), closeRound_cl (by rw [show gI M 0 1 = nI n from hx]; exact z)]
      obtain ⟨r, X', Y', q1, q2, q3, q4, q5, q6, q7⟩ := s_closes h
      rw [q1, q2, ob2_s, ob2_s, ob2_s]
      refine Or.inl ⟨r, X', Y', rfl, ?_, rfl, q3, hS.fr q5 (q6 8 (Or.inl rfl)) (q7 9 (by omega)) (q7 21 (by omega)) rfl, q6 8 (Or.inl rfl)⟩
      rcases q4 with rfl | q4
      · exact err_no
      · exact err_pos q4.1
  · -- a swap
    rw [if_neg (show ¬ (119 : Int32) = 99 by decide), if_neg (show ¬ (119 : Int32) = 115 by decide), if_neg (show ¬ (119 : Int32) = 115 by decide), if_neg (show ¬ (119 : Int32) = 99 by decide), if_neg (show ¬ (119 : Int32) = 99 by decide)]
    obtain ⟨r, X', Y', q1, q2, q3, q4, q5, q6⟩ := s_swaps h
    rw [q1, q2, ob2_s, ob2_s, ob2_s]
    refine Or.inl ⟨r, X', Y', rfl, err_pos (neg1m ?_), rfl, q3, hS.fr (fun k k1 k2 => q5 k k1) (q6 8 (by decide)) (congrFun (q6 0 (by decide)) 9) (congrFun (q6 0 (by decide)) 21) rfl, q6 8 (by decide)⟩
    rcases q4 with rfl | rfl <;> decide
theorem s_runL {t : Nat} {T : Nat → Int32} : ∀ (k f acts p : Nat) (x1 : Int32) (M N : Mm), Rel M N → St t p 0 M N → (∀ k, k < t → N.1 8 k = T k) → Gd t T k p → k < f → acts ≤ p →
    ∃ r M' N', f_X10_run_L34 f x1 (nI acts) M = some (r, M') ∧ f_X11_run_L21 f x1 N = some (r, N') ∧ Rel M' N' := by
  intro k
  have stop : ∀ (g acts : Nat) (x1 : Int32) (M N : Mm), Rel M N → St t t 0 M N → ∃ r M' N', f_X10_run_L34 (g + 1) x1 (nI acts) M = some (r, M') ∧ f_X11_run_L21 (g + 1) x1 N = some (r, N') ∧ Rel M' N' := by
    intro g acts x1 M N hR hS
    refine ⟨x1, M, N, ?_, ?_, hR⟩
    · rw [f_X10_run_L34, x_more hS.1 hS.2.1 hS.2.2.1 hS.2.2.2.1, ob1_s, if_neg (show ¬ t < t by omega), if_pos rfl, ite_self]
    · rw [f_X11_run_L21, hS.1.2.2.1, hS.2.2.2.2.1, if_pos (show nI t ≤ nI t from Int32.le_refl _)]
  induction k with
  | zero =>
    intro f acts p x1 M N hR hS hT hG hf ha
    obtain ⟨g, rfl⟩ : ∃ g, f = g + 1 := ⟨f - 1, by omega⟩
    have e : p = t := hG
    subst e
    exact stop g acts x1 M N hR hS
  | succ k ih =>
    intro f acts p x1 M N hR hS hT hG hf ha
    obtain ⟨g, rfl⟩ : ∃ g, f = g + 1 := ⟨f - 1, by omega⟩
    rcases hG with e | ⟨c, p', c1, c2, c3, c4⟩
    · subst e
      exact stop g acts x1 M N hR hS
    · have ht := hS.1.1
      rw [f_X10_run_L34, x_more hS.1 hS.2.1 hS.2.2.1 hS.2.2.2.1, ob1_s, if_pos c, if_neg one_0, if_neg (show ¬ (100 : Int32) ≤ nI acts from nI_ge (b := 100) (by omega) (by decide)), f_X11_run_L21, hS.1.2.2.1, hS.2.2.2.2.1, if_neg (show ¬ nI t ≤ nI p from nI_ge c (by omega))]
      obtain ⟨A, B, a1, a2, a3, a4, a5, a6, a7, a8⟩ := c3 M N hS hT
      rw [a1, a2, ob1_s, ob2_s, if_neg one_0]
      have hR1 := hR.g a7 a8
      rcases s_act hR1 a3 a4 a5 a6 with ⟨r, A2, B2, b1, b2, b3, b4, b5, b6⟩ | ⟨r, b1, b2, b3⟩
      · rw [b1, b3, ob2_s, ob2_s, b2, ob1_s, if_pos rfl, if_neg one_0, lt1_s, lt1_s, lt1_s, ← nI_succ]
        exact ih g (acts + 1) p' (x1 + 1) A2 B2 b4 b5 (fun k hk => by rw [b6, a8.1 8 (by decide) (by decide)]; exact hT k hk) c4 (by omega) (by omega)
      · rw [b1, b3, ob2_s, ob2_s, b2, ob1_s, if_neg one_0, if_pos rfl]
        exact ⟨x1, A, B, rfl, rfl, hR1⟩
theorem s_run {X Y : Mm} (h : Rel X Y) : ∃ r X' Y', f_X10_run X = some (r, X') ∧ f_X11_run Y = some (r, Y') ∧ Rel X' Y' := by
  obtain ⟨t, hT⟩ := h.tt
  have ht := hT.1
  unfold f_X10_run f_X11_run
  rcases s_fault2 hT with ⟨X1, Y1, b1, b2, b4, b5, b6⟩ | ⟨q, X', Y', b0, b1, b2, b5, b6⟩
  · rw [b1, b2, ob2_s, ob2_s, if_pos rfl, if_pos (by decide)]
    have h1 := h.g b5 b6
    obtain ⟨X2, Y2, p1, p2, kx, ky, h2⟩ := s_push h1
    have hT1 := hT.g b5 b6
    have e8 : Y2.1 8 = Y.1 8 := (ky.1 8 (by decide) (by decide)).trans (b6.1 8 (by decide) (by decide))
    have hT2 : Tt X2 Y2 t := ⟨ht, (congrFun ((kx 230 (by omega)).1 (by decide)) 1).trans hT1.2.1, (ky.2.1 9 (by decide)).trans hT1.2.2.1, fun k hk => by
      rw [(kx 231 (by omega)).1 (by decide), ky.1 8 (by decide) (by decide)]
      exact hT1.2.2.2 k hk⟩
    unfold f_X0_begin
    rw [p1, p2, ob1_s, ob1_s, lt1_s, lt1_s, ob1_s, lt1_s]
    have h3 : Rel (wI (wI X2 229 1 0) 229 2 0) (wI Y2 0 21 0) := h2.g (gx1.tr gx1) gy21
    have e83 : (wI Y2 0 21 0).1 8 = Y.1 8 := (wI_o (by decide)).trans e8
    obtain ⟨r, X', Y', r1, r2, r3⟩ := s_runL (t := t) (T := Y.1 8) t 1000 0 0 0 _ _ h3 (St.begin hT2) (fun k _ => congrFun e83 k) b4 (by omega) (Nat.le_refl _)
    rw [show f_X10_run_L34 1000 (0 : Int32) (0 : Int32) (wI (wI X2 229 1 0) 229 2 0) = some (r, X') from r1, r2, ob2_s]
    exact ⟨r, X', Y', rfl, rfl, r3⟩
  · rw [b1, b2, ob2_s, ob2_s, if_neg (show ¬ nI q = -2000000005 from fun z => absurd (nI_pos' (n := q) (by omega)) (by rw [z]; decide)), if_neg (show ¬ nI q < 0 from nI_pos (by omega))]
    exact ⟨_, _, _, rfl, rfl, h.g b5 b6⟩

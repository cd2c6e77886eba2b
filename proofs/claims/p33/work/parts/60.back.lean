/-! UNDO, RESTORE: the present state is made out of a kept one -/
theorem wJ01 {M : Mm} {a : Nat} {u v : Int64} : (wJ (wJ M a 0 u) a 1 v).2 a 0 = u ∧ (wJ (wJ M a 0 u) a 1 v).2 a 1 = v := by
  constructor
  · show (if a = a ∧ 0 = 1 then v else if a = a ∧ 0 = 0 then u else M.2 a 0) = u
    simp
  · show (if a = a ∧ 1 = 1 then v else if a = a ∧ 1 = 0 then u else M.2 a 1) = v
    simp
theorem s_undo {X Y : Mm} (h : Rel X Y) : ∃ r X' Y', f_X10_undo X = some (r, X') ∧ f_X11_undo Y = some (r, Y') ∧ Rel X' Y' := by
  obtain ⟨-, hH, hS, hT⟩ := id h
  obtain ⟨c, hc, hcx, hcy, hp⟩ := id hH
  unfold f_X10_undo f_X11_undo
  rcases Nat.eq_zero_or_pos c with e | e
  · subst e
    rw [if_pos (show gI X 225 1 = 0 from hcx), if_pos (show gI Y 0 4 = 0 from hcy)]
    exact ⟨_, _, _, rfl, rfl, h⟩
  · obtain ⟨d, rfl⟩ : ∃ d, c = d + 1 := ⟨c - 1, by omega⟩
    have hG := hp d (by omega)
    have ha : APT 0 (28 * (d + 1)) := Or.inl (by omega)
    have n0 : ¬ nI (d + 1) = 0 := nI_ne0 (by omega) (by omega)
    -- the class
    have bz1 : BZ (wI X 225 1 (nI d)) (28 * (d + 1)) := by
      have q := PG_bz hG
      refine ⟨fun i hi => ?_, ?_⟩
      · rw [wI_o (by omega), wI_o (by omega)]
        exact q.1 i hi
      · rw [wI_o (by omega)]
        exact q.2
    obtain ⟨X2, ex, hX⟩ := cp8 (M := wI X 225 1 (nI d)) ha bz1
    have hx1 : f_X1_pop X = some X2 := by
      unfold f_X1_pop
      have g : gI (wI X 225 1 (nI (d + 1) - 1)) 225 1 = nI d := by rw [nI_pred]; rfl
      rw [hcx, if_neg (show ¬ nI (d + 1) ≤ 0 from nI_nle (by omega) (by omega)), if_neg (show ¬ (5 : Int32) < nI (d + 1) from nI_nlt (a := 5) (by omega) (by decide)), lt1_s, g, chk_p (inb_n (by omega) (by decide)), rid52 (by omega), nI_pred, ex]
      rfl
    have gx : gI X2 225 1 = nI d := by
      show X2.1 225 1 = _
      rw [hX.1, if_neg (by omega)]
      rfl
    -- the reference
    obtain ⟨Y2, ey, hY, hYj⟩ := cpLoop (L := f_X11_undo_L22) (wI Y 0 4 (nI d)) 159 1 3 0 (159 * d) (by decide) (Or.inl (by decide)) (fun f M => by rw [f_X11_undo_L22, if_pos (show (159 : Int32) ≤ nI 159 by decide)]) (fun f i M hi hM => by
      have e : gI M 0 4 = nI d := congrFun (hM 0 (by decide)) 4
      rw [f_X11_undo_L22, if_neg (show ¬ (159 : Int32) ≤ nI i from nI_ge hi (by decide)), e, show (159 : Int32) * nI d + nI i = nI (159 * d + i) from (congrArg (· + nI i) (nI_mul 159 d)).trans (nI_add _ _), chk_p (inb_n (by omega) (by decide)), chk_p (inb_n (by omega) (by decide)), ix_n (by omega), ix_n (by omega), lt1_s, lt1_s, nI_succ, Nat.zero_add])
    have gy : gI Y2 0 4 = nI d := by
      show Y2.1 0 4 = _
      rw [hY, if_neg (by omega)]
      rfl
    have m2 : (2 : Int32) * nI d = nI (2 * d) := nI_mul 2 d
    have m3 : nI (2 * d) + (1 : Int32) = nI (2 * d + 1) := nI_1 _
    rw [hcx, hcy, if_neg n0, if_neg n0, hx1, ob1_s, lt1_s, nI_pred, ey, ob1_s, gx]
    simp only [lt1_s, gI_wJ, gy, m2, m3, chk_p (inb_n (c := 2 * d) (N := 10) (by omega) (by decide)), chk_p (inb_n (c := 2 * d + 1) (N := 10) (by omega) (by decide)), ix_n (n := 2 * d) (by omega), ix_n (n := 2 * d + 1) (by omega)]
    refine ⟨nI d, X2, wJ (wJ Y2 2 0 (Y2.2 4 (2 * d))) 2 1 (Y2.2 4 (2 * d + 1)), rfl, rfl, ?_⟩
    have kx : ∀ k, 28 ≤ k → k ≠ 225 → X2.1 k = X.1 k := fun k hk h225 => funext fun j => by rw [hX.1, if_neg (by omega), wI_o h225]
    have kxj : ∀ k, 28 ≤ k → X2.2 k = X.2 k := fun k hk => funext fun j => by rw [hX.2, if_neg (by omega)]; rfl
    have ky : ∀ a, a ≠ 1 → a ≠ 0 → Y2.1 a = Y.1 a := fun a ha h0 => funext fun j => by rw [hY, if_neg (fun q => ha q.1), wI_o h0]
    have ky0 : ∀ j, j ≠ 4 → Y2.1 0 j = Y.1 0 j := fun j hj => by rw [hY, if_neg (by omega)]; exact wI_k hj
    have kyj : Y2.2 = Y.2 := hYj
    refine Rel.of ?_ ⟨⟨d, by omega, gx, gy, fun j hj => ?_⟩, ?_, ?_⟩
    · refine PG_congr (fun o i ho hi hcov => ?_) ⟨?_, ?_⟩ (fun k hk => ?_) ⟨?_, ?_⟩ hG
      · rw [hX.1, Nat.sub_zero, if_pos ⟨by omega, by omega, hcov⟩, wI_o (by omega)]
        rfl
      · rw [hX.2, if_pos ⟨rfl, rfl⟩]; rfl
      · rw [hX.2, if_pos ⟨rfl, rfl⟩]; rfl
      · show Y2.1 1 k = _
        rw [hY, if_pos ⟨rfl, by omega, by omega⟩, Nat.sub_zero, wI_o (by decide)]
      · rw [wJ01.1, kyj]
        rfl
      · rw [wJ01.2, kyj]
    · refine PG_congr (fun o i ho hi hcov => ?_) ⟨?_, ?_⟩ (fun k hk => ?_) ⟨?_, ?_⟩ (hp j (by omega))
      · exact congrFun (kx _ (by omega) (by omega)) i
      · exact congrFun (kxj _ (by omega)) 8
      · exact congrFun (kxj _ (by omega)) 9
      · exact congrFun (ky 3 (by decide) (by decide)) _
      · show (wJ (wJ Y2 2 0 _) 2 1 _).2 4 _ = _
        rw [wJ_o (by decide), wJ_o (by decide), kyj]
      · show (wJ (wJ Y2 2 0 _) 2 1 _).2 4 _ = _
        rw [wJ_o (by decide), wJ_o (by decide), kyj]
    · refine SL_keep (fun k h1 h2 => ⟨kx k (by omega) (by omega), kxj k (by omega)⟩) (fun a ha => ky a (by omega) (by omega)) ?_ hS
      rw [wJ_o (by decide), wJ_o (by decide), kyj]
    · exact TX_keep ⟨congrFun (kx 230 (by decide) (by decide)) 1, kx 231 (by decide) (by decide)⟩ ⟨ky0 9 (by decide), ky 8 (by decide) (by decide)⟩ hT
theorem s_restore (x1 : Int32) {X Y : Mm} (h : Rel X Y) : ∃ r X' Y', f_X10_restore x1 X = some (r, X') ∧ f_X11_restore x1 Y = some (r, Y') ∧ Rel X' Y' := by
  unfold f_X10_restore f_X11_restore
  by_cases h0 : x1 < 0
  · rw [if_pos h0, show f_X11_in x1 0 1 Y = some 0 from if_pos h0]
    exact ⟨_, _, _, rfl, rfl, h⟩
  by_cases h2 : x1 < 2
  · obtain ⟨c, hj, rfl⟩ := nI_of h0
    have hc : c < 2 := by
      rcases Nat.lt_or_ge c 2 with q | q
      · exact q
      · exact absurd h2 (show ¬ nI c < (2 : Int32) from nI_nlt q hj)
    have hin : f_X11_in (nI c) 0 1 Y = some 1 := by
      unfold f_X11_in
      rw [if_neg h0, if_neg (show ¬ (1 : Int32) < nI c from nI_nlt (a := 1) (by omega) (by decide))]
    obtain ⟨s1, s2⟩ := h.2.2.1 c hc
    have m2 : (2 : Int32) * nI c = nI (2 * c) := nI_mul 2 c
    have m3 : nI (2 * c) + (1 : Int32) = nI (2 * c + 1) := nI_1 _
    simp only [chk_p (inb_n (c := c) (N := 2) hc (by decide))]
    rw [if_neg h0, if_pos h2, ix_n hj, hin, ob1_s, if_neg one_0]
    rcases s2 with q | ⟨q, -⟩
    · rw [if_pos (show gI X 228 c = 0 from s1.trans q), if_pos (show gI Y 7 c = 0 from q)]
      exact ⟨_, _, _, rfl, rfl, h⟩
    · rw [if_neg (show ¬ gI X 228 c = 0 from fun z => one_0 ((s1.trans q).symm.trans z)), if_neg (show ¬ gI Y 7 c = 0 from fun z => one_0 (q.symm.trans z))]
      obtain ⟨X1, Y1, p1, p2, kx1, ky1, hr1⟩ := s_push h
      obtain ⟨s1', s2'⟩ := hr1.2.2.1 c hc
      have q1 : Y1.1 7 c = 1 := (congrFun (ky1.1 7 (by decide) (by decide)) c).trans q
      have hG : PG (vI X1 (28 * (c + 6))) (X1.2 (28 * (c + 6))) (fun k => Y1.1 5 (159 * c + k)) (fun v => Y1.2 6 (2 * c + v)) := by
        rcases s2' with z | ⟨-, z⟩
        · exact absurd (q1.symm.trans z) one_0
        · exact z
      have ha : APT 0 (28 * (c + 6)) := Or.inl (by omega)
      obtain ⟨X2, ex, hX⟩ := cp8 (M := X1) ha (PG_bz hG)
      obtain ⟨Y2, ey, hY, hYj⟩ := cpLoop (L := fun f x s => f_X11_restore_L30 (nI c) f x s) Y1 159 1 5 0 (159 * c) (by decide) (Or.inl (by decide)) (fun f M => by rw [f_X11_restore_L30, if_pos (show (159 : Int32) ≤ nI 159 by decide)]) (fun f i M hi hM => by
        rw [f_X11_restore_L30, if_neg (show ¬ (159 : Int32) ≤ nI i from nI_ge hi (by decide)), show (159 : Int32) * nI c + nI i = nI (159 * c + i) from (congrArg (· + nI i) (nI_mul 159 c)).trans (nI_add _ _), chk_p (inb_n (by omega) (by decide)), chk_p (inb_n (by omega) (by decide)), ix_n (by omega), ix_n (by omega), lt1_s, lt1_s, nI_succ, Nat.zero_add])
      have ecl : gI X2 0 6 = gI (wJ (wJ Y2 2 0 (Y2.2 6 (2 * c))) 2 1 (Y2.2 6 (2 * c + 1))) 1 84 := by
        show X2.1 0 6 = Y2.1 1 84
        rw [hX.1, if_pos ⟨by omega, by omega, rfl⟩, hY, if_pos ⟨rfl, by omega, by omega⟩]
        exact hG.2.2.2.2.2.1.1.symm
      rw [p1, p2, ob1_s, ob1_s, show rid 53 227 c = 28 * (c + 6) from rfl, ex, ob1_s, ey, ob1_s]
      simp only [lt1_s, m2, m3, chk_p (inb_n (c := 2 * c) (N := 4) (by omega) (by decide)), chk_p (inb_n (c := 2 * c + 1) (N := 4) (by omega) (by decide)), ix_n (n := 2 * c) (by omega), ix_n (n := 2 * c + 1) (by omega)]
      refine ⟨gI X2 0 6, X2, wJ (wJ Y2 2 0 (Y2.2 6 (2 * c))) 2 1 (Y2.2 6 (2 * c + 1)), rfl, ?_, ?_⟩
      · rw [ecl]; rfl
      have kx : ∀ k, 28 ≤ k → X2.1 k = X1.1 k ∧ X2.2 k = X1.2 k := fun k hk => ⟨funext fun j => by rw [hX.1, if_neg (by omega)], funext fun j => by rw [hX.2, if_neg (by omega)]⟩
      have ky : ∀ a, a ≠ 1 → Y2.1 a = Y1.1 a := fun a ha => funext fun j => by rw [hY, if_neg (fun q => ha q.1)]
      refine Rel.of ?_ (Rest_pages (X := X1) (Y := Y1) (fun k hk => kx k hk) (fun a ha => ky a ha) (fun a ha => ?_) hr1.rest)
      · refine PG_congr (fun o i ho hi hcov => ?_) ⟨?_, ?_⟩ (fun k hk => ?_) ⟨?_, ?_⟩ hG
        · rw [hX.1, Nat.sub_zero, if_pos ⟨by omega, by omega, hcov⟩]
          rfl
        · rw [hX.2, if_pos ⟨rfl, rfl⟩]
        · rw [hX.2, if_pos ⟨rfl, rfl⟩]
        · show Y2.1 1 k = _
          rw [hY, if_pos ⟨rfl, by omega, by omega⟩, Nat.sub_zero]
        · rw [wJ01.1, hYj]
          rfl
        · rw [wJ01.2, hYj]
      · rw [wJ_o ha, wJ_o ha, hYj]
  · rw [if_neg h0, if_neg h2, show f_X11_in x1 0 1 Y = some 0 by
      unfold f_X11_in
      rw [if_neg h0, if_pos]
      rw [i_lt] at h2 ⊢
      have e1 : (2 : Int32).toInt = 2 := rfl
      have e2 : (1 : Int32).toInt = 1 := rfl
      omega]
    exact ⟨_, _, _, rfl, rfl, h⟩

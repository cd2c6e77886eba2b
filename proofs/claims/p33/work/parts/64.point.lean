/-! SETTING AND REMOVING POINTS -/
/-- a row with one entry more at a -/
def insA (g : Nat → Int32) (a n : Nat) (x : Int32) : Nat → Int32 := fun k => if k = a then x else if a < k ∧ k ≤ n then g (k - 1) else g k
/-- a row with the entry at a left out -/
def delA (g : Nat → Int32) (a n : Nat) : Nat → Int32 := fun k => if a ≤ k ∧ k + 1 < n then g (k + 1) else g k
theorem PG_pf {I I' : Nat → Nat → Int32} {J : Nat → Int64} {P P' : Nat → Int32} {V : Nat → Int64} (h : PG I J P V) (hI : ∀ o, o ≠ 10 → o ≠ 11 → o ≠ 12 → I' o = I o) (hP : ∀ k, k < 65 ∨ 78 ≤ k → P' k = P k) (hF : ∃ n, PF n (I' 10 2) (I' 11) (I' 12) P') : PG I' J P' V := by
  obtain ⟨⟨n, hA⟩, -, hS, ⟨r, hR⟩, hsw, hcl, hv⟩ := h
  refine ⟨⟨n, PA_congr (congrFun (hI 0 (by decide) (by decide) (by decide)) 1) (fun i hi => ⟨fun j _ => congrFun (hI _ (by omega) (by omega) (by omega)) j, fun j _ => congrFun (hI _ (by omega) (by omega) (by omega)) j⟩) (fun k hk => hP k (by omega)) hA⟩, hF, PS_congr (fun k _ => congrFun (hI 13 (by decide) (by decide) (by decide)) k) (fun k h1 h2 => hP k (by omega)) hS, ⟨r, PR_congr (congrFun (hI 14 (by decide) (by decide) (by decide)) 1) (fun k hk j hj => congrFun (hI _ (by omega) (by omega) (by omega)) j) (fun k h1 h2 => hP k (by omega)) hR⟩, ?_, ?_, hv⟩
  · rw [hI 0 (by decide) (by decide) (by decide), hP 83 (by decide)]
    exact hsw
  · rw [hI 0 (by decide) (by decide) (by decide), hP 84 (by decide), hP 85 (by decide)]
    exact hcl
/-- the class's shift behind a new point -/
theorem x_ins {X : Mm} {n a : Nat} (hn : n < 6) {x : Int32} (ha : a ≤ n) (hlow : ∀ k, k < a → X.1 11 k < x) (hup : ∀ k, a ≤ k → k < n → x < X.1 11 k) :
    ∃ M, f_X4_put_L53 x 1000 (nI n) (nI n) X = some (nI a, M) ∧ (∀ j, M.1 11 j = if a < j ∧ j ≤ n then X.1 11 (j - 1) else X.1 11 j) ∧ (∀ j, M.1 12 j = if a < j ∧ j ≤ n then X.1 12 (j - 1) else X.1 12 j) ∧ (∀ k, k ≠ 11 → k ≠ 12 → M.1 k = X.1 k) ∧ M.2 = X.2 := by
  obtain ⟨b, hb, hP⟩ := lp (fun f (s : Int32 × Int32 × Mm) => f_X4_put_L53 x f s.1 s.2.1 s.2.2) (fun k (s : Int32 × Int32 × Mm) => s.1 = nI (a + k) ∧ s.2.1 = nI (a + k) ∧ a + k ≤ n ∧ (∀ j, s.2.2.1 11 j = if a + k < j ∧ j ≤ n then X.1 11 (j - 1) else X.1 11 j) ∧ (∀ j, s.2.2.1 12 j = if a + k < j ∧ j ≤ n then X.1 12 (j - 1) else X.1 12 j) ∧ (∀ k, k ≠ 11 → k ≠ 12 → s.2.2.1 k = X.1 k) ∧ s.2.2.2 = X.2) (fun (b : Int32 × Mm) => b.1 = nI a ∧ (∀ j, b.2.1 11 j = if a < j ∧ j ≤ n then X.1 11 (j - 1) else X.1 11 j) ∧ (∀ j, b.2.1 12 j = if a < j ∧ j ≤ n then X.1 12 (j - 1) else X.1 12 j) ∧ (∀ k, k ≠ 11 → k ≠ 12 → b.2.1 k = X.1 k) ∧ b.2.2 = X.2) (fun f k s hI => by
    obtain ⟨p, i, M⟩ := s
    obtain ⟨rfl, rfl, hk, h11, h12, ho, hj⟩ := hI
    show (∃ b, f_X4_put_L53 x (f + 1) (nI (a + k)) (nI (a + k)) M = some b ∧ _) ∨ (∃ (k' : Nat) (s' : Int32 × Int32 × Mm), k = k' + 1 ∧ _ ∧ f_X4_put_L53 x (f + 1) (nI (a + k)) (nI (a + k)) M = f_X4_put_L53 x f s'.1 s'.2.1 s'.2.2)
    rw [f_X4_put_L53]
    rcases Nat.eq_zero_or_pos k with e | e
    · subst e
      refine Or.inl ⟨(nI a, M), ?_, rfl, h11, h12, ho, hj⟩
      rcases Nat.eq_zero_or_pos a with ea | ea
      · subst ea
        rw [if_pos (show nI (0 + 0) ≤ (0 : Int32) by decide)]
      · have em : nI (a + 0) - (1 : Int32) = nI (a - 1) := nI_sub (b := 1) (a := a) (by omega)
        have g : gI M 11 (a - 1) = X.1 11 (a - 1) := by
          show M.1 11 (a - 1) = _
          rw [h11, if_neg (by omega)]
        rw [if_neg (show ¬ nI (a + 0) ≤ 0 from nI_nle ea (by omega)), em, chk_p (inb_n (by omega) (by decide)), ix_n (by omega), g, if_pos]
        · rfl
        · have := hlow (a - 1) (by omega)
          rw [i_lt] at this
          rw [i_le]
          omega
    · obtain ⟨d, rfl⟩ : ∃ d, k = d + 1 := ⟨k - 1, by omega⟩
      have em : nI (a + (d + 1)) - (1 : Int32) = nI (a + d) := nI_pred (a + d)
      have g : gI M 11 (a + d) = X.1 11 (a + d) := by
        show M.1 11 (a + d) = _
        rw [h11, if_neg (by omega)]
      have g2 : gI (wI M 11 (a + (d + 1)) (X.1 11 (a + d))) 12 (a + d) = X.1 12 (a + d) := by
        show (wI M 11 (a + (d + 1)) (X.1 11 (a + d))).1 12 (a + d) = _
        rw [wI_o (by decide), h12, if_neg (by omega)]
      have em2 : nI (a + (d + 1)) + (-1 : Int32) = nI (a + d) := by
        rw [← em, Int32.sub_eq_add_neg]
      refine Or.inr ⟨d, (nI (a + d), nI (a + d), wI (wI M 11 (a + (d + 1)) (X.1 11 (a + d))) 12 (a + (d + 1)) (X.1 12 (a + d))), rfl, ⟨rfl, rfl, by omega, fun j => ?_, fun j => ?_, fun q h1 h2 => ?_, hj⟩, ?_⟩
      · show (wI (wI M 11 (a + (d + 1)) (X.1 11 (a + d))) 12 (a + (d + 1)) (X.1 12 (a + d))).1 11 j = _
        rw [wI_o (by decide)]
        show (if 11 = 11 ∧ j = a + (d + 1) then X.1 11 (a + d) else M.1 11 j) = _
        rw [h11]
        by_cases c : j = a + (d + 1)
        · rw [if_pos ⟨rfl, c⟩, if_pos (by omega), c]
          rfl
        · rw [if_neg (fun q => c q.2)]
          by_cases c2 : a + (d + 1) < j ∧ j ≤ n
          · rw [if_pos c2, if_pos (by omega)]
          · rw [if_neg c2, if_neg (by omega)]
      · show (if 12 = 12 ∧ j = a + (d + 1) then X.1 12 (a + d) else (wI M 11 (a + (d + 1)) (X.1 11 (a + d))).1 12 j) = _
        rw [wI_o (by decide), h12]
        by_cases c : j = a + (d + 1)
        · rw [if_pos ⟨rfl, c⟩, if_pos (by omega), c]
          rfl
        · rw [if_neg (fun q => c q.2)]
          by_cases c2 : a + (d + 1) < j ∧ j ≤ n
          · rw [if_pos c2, if_pos (by omega)]
          · rw [if_neg c2, if_neg (by omega)]
      · show (wI (wI M 11 (a + (d + 1)) (X.1 11 (a + d))) 12 (a + (d + 1)) (X.1 12 (a + d))).1 q = _
        rw [wI_o h2, wI_o h1, ho q h1 h2]
      · have hx : ¬ X.1 11 (a + d) ≤ x := by
          have := hup (a + d) (by omega) (by omega)
          rw [i_lt] at this
          rw [i_le]
          omega
        rw [if_neg (show ¬ nI (a + (d + 1)) ≤ 0 from nI_nle (by omega) (by omega)), em, em2]
        simp only [lt1_s, chk_p (inb_n (c := a + d) (N := 6) (by omega) (by decide)), chk_p (inb_n (c := a + (d + 1)) (N := 6) (by omega) (by decide)), ix_n (n := a + d) (by omega), ix_n (n := a + (d + 1)) (by omega)]
        rw [g, g2, if_neg hx]) (n - a) (nI n, nI n, X) 1000 ⟨by show nI n = _; congr 1; omega, by show nI n = _; congr 1; omega, by omega, fun j => by show X.1 11 j = _; rw [if_neg (by omega)], fun j => by show X.1 12 j = _; rw [if_neg (by omega)], fun _ _ _ => rfl, rfl⟩ (by omega)
  obtain ⟨p, M⟩ := b
  obtain ⟨rfl, r⟩ := hP
  exact ⟨M, hb, r⟩
/-- the reference's shift behind a new point -/
theorem y_ins {Y : Mm} {n a : Nat} (hn : n < 6) (ha : a ≤ n) :
    ∃ M, f_X11_setPoint_L92_2 (nI a) 0 1000 (nI n) Y = some M ∧ (∀ j, M.1 1 (66 + 2 * j) = if a < j ∧ j ≤ n then Y.1 1 (66 + 2 * (j - 1)) else Y.1 1 (66 + 2 * j)) ∧ (∀ j, M.1 1 (67 + 2 * j) = if a < j ∧ j ≤ n then Y.1 1 (67 + 2 * (j - 1)) else Y.1 1 (67 + 2 * j)) ∧ (∀ k, k < 66 → M.1 1 k = Y.1 1 k) ∧ (∀ q, q ≠ 1 → M.1 q = Y.1 q) ∧ M.2 = Y.2 := by
  refine (fun z => z) (lp (fun f (s : Int32 × Mm) => f_X11_setPoint_L92_2 (nI a) 0 f s.1 s.2) (fun k (s : Int32 × Mm) => s.1 = nI (a + k) ∧ a + k ≤ n ∧ (∀ j, s.2.1 1 (66 + 2 * j) = if a + k < j ∧ j ≤ n then Y.1 1 (66 + 2 * (j - 1)) else Y.1 1 (66 + 2 * j)) ∧ (∀ j, s.2.1 1 (67 + 2 * j) = if a + k < j ∧ j ≤ n then Y.1 1 (67 + 2 * (j - 1)) else Y.1 1 (67 + 2 * j)) ∧ (∀ k, k < 66 → s.2.1 1 k = Y.1 1 k) ∧ (∀ q, q ≠ 1 → s.2.1 q = Y.1 q) ∧ s.2.2 = Y.2) (fun (M : Mm) => (∀ j, M.1 1 (66 + 2 * j) = if a < j ∧ j ≤ n then Y.1 1 (66 + 2 * (j - 1)) else Y.1 1 (66 + 2 * j)) ∧ (∀ j, M.1 1 (67 + 2 * j) = if a < j ∧ j ≤ n then Y.1 1 (67 + 2 * (j - 1)) else Y.1 1 (67 + 2 * j)) ∧ (∀ k, k < 66 → M.1 1 k = Y.1 1 k) ∧ (∀ q, q ≠ 1 → M.1 q = Y.1 q) ∧ M.2 = Y.2) (fun f k s hI => ?_) (n - a) (nI n, Y) 1000 ⟨by show nI n = _; congr 1; omega, by omega, fun j => by show Y.1 1 _ = _; rw [if_neg (by omega)], fun j => by show Y.1 1 _ = _; rw [if_neg (by omega)], fun _ _ => rfl, fun _ _ => rfl, rfl⟩ (by omega))
  obtain ⟨i, M⟩ := s
  obtain ⟨rfl, hk, h66, h67, hl, ho, hj⟩ := hI
  show (∃ b, f_X11_setPoint_L92_2 (nI a) 0 (f + 1) (nI (a + k)) M = some b ∧ _) ∨ (∃ (k' : Nat) (s' : Int32 × Mm), k = k' + 1 ∧ _ ∧ f_X11_setPoint_L92_2 (nI a) 0 (f + 1) (nI (a + k)) M = f_X11_setPoint_L92_2 (nI a) 0 f s'.1 s'.2)
  rw [f_X11_setPoint_L92_2]
  rcases Nat.eq_zero_or_pos k with e | e
  · subst e
    rw [if_pos (nI_le (show a + 0 ≤ a by omega) (by omega))]
    exact Or.inl ⟨M, rfl, h66, h67, hl, ho, hj⟩
  · obtain ⟨d, rfl⟩ : ∃ d, k = d + 1 := ⟨k - 1, by omega⟩
    have em : nI (a + (d + 1)) - (1 : Int32) = nI (a + d) := nI_pred (a + d)
    have em2 : nI (a + (d + 1)) + (-1 : Int32) = nI (a + d) := by
      rw [← em, Int32.sub_eq_add_neg]
    have i1 : (66 : Int32) + (2 : Int32) * nI (a + (d + 1)) = nI (66 + 2 * (a + (d + 1))) := (congrArg (nI 66 + ·) (nI_mul 2 _)).trans (nI_add _ _)
    have i2 : nI (66 + 2 * (a + (d + 1))) + (1 : Int32) = nI (67 + 2 * (a + (d + 1))) := by rw [nI_1]; congr 1; omega
    have s66 : ∀ j, M.1 1 (66 + 2 * j) = if a + (d + 1) < j ∧ j ≤ n then Y.1 1 (66 + 2 * (j - 1)) else Y.1 1 (66 + 2 * j) := h66
    have s67 : ∀ j, M.1 1 (67 + 2 * j) = if a + (d + 1) < j ∧ j ≤ n then Y.1 1 (67 + 2 * (j - 1)) else Y.1 1 (67 + 2 * j) := h67
    have hw : ∀ (v : Int32), (wI M 1 (66 + 2 * (a + (d + 1))) v).1 1 (67 + 2 * (a + d)) = Y.1 1 (67 + 2 * (a + d)) := fun v => by rw [wI_k (by omega), s67, if_neg (by omega)]
    refine Or.inr ⟨d, (nI (a + d), wI (wI M 1 (66 + 2 * (a + (d + 1))) (Y.1 1 (66 + 2 * (a + d)))) 1 (67 + 2 * (a + (d + 1))) (Y.1 1 (67 + 2 * (a + d)))), rfl, ⟨rfl, by omega, fun j => ?_, fun j => ?_, fun q hq => ?_, fun q hq => ?_, hj⟩, ?_⟩
    · show (wI (wI M 1 (66 + 2 * (a + (d + 1))) (Y.1 1 (66 + 2 * (a + d)))) 1 (67 + 2 * (a + (d + 1))) (Y.1 1 (67 + 2 * (a + d)))).1 1 (66 + 2 * j) = _
      rw [wI_k (by omega)]
      by_cases c : j = a + (d + 1)
      · subst c
        rw [wI_e, if_pos (by omega)]
        rfl
      · rw [wI_k (by omega), s66]
        by_cases c2 : a + (d + 1) < j ∧ j ≤ n
        · rw [if_pos c2, if_pos (by omega)]
        · rw [if_neg c2, if_neg (by omega)]
    · show (wI (wI M 1 (66 + 2 * (a + (d + 1))) (Y.1 1 (66 + 2 * (a + d)))) 1 (67 + 2 * (a + (d + 1))) (Y.1 1 (67 + 2 * (a + d)))).1 1 (67 + 2 * j) = _
      by_cases c : j = a + (d + 1)
      · subst c
        rw [wI_e, if_pos (by omega)]
        rfl
      · rw [wI_k (by omega), wI_k (by omega), s67]
        by_cases c2 : a + (d + 1) < j ∧ j ≤ n
        · rw [if_pos c2, if_pos (by omega)]
        · rw [if_neg c2, if_neg (by omega)]
    · show (wI (wI M 1 _ _) 1 _ _).1 1 q = _
      rw [wI_k (by omega), wI_k (by omega)]
      exact hl q hq
    · show (wI (wI M 1 _ _) 1 _ _).1 q = _
      rw [wI_o hq, wI_o hq]
      exact ho q hq
    · rw [if_neg (nI_ge (show a < a + (d + 1) by omega) (by omega)), if_pos rfl, em, em2, y_speed (by omega), ob1_s, i1]
      simp only [lt1_s, ob1_s, chk_p (inb_n (c := 66 + 2 * (a + (d + 1))) (N := 159) (by omega) (by decide)), ix_n (n := 66 + 2 * (a + (d + 1))) (by omega)]
      rw [y_factor (by omega), ob1_s, i2, chk_p (inb_n (by omega) (by decide)), ix_n (by omega), s66, if_neg (by omega), hw]
theorem PF_ins {n a : Nat} {C : Int32} {v f P v' f' P' : Nat → Int32} {x y : Int32} (h : PF n C v f P) (hn : n < 6) (ha : a ≤ n) (hlow : ∀ k, k < a → v k < x) (hup : ∀ k, a ≤ k → k < n → x < v k) (hx : 0 ≤ x ∧ x ≤ 100000) (hy : 500 ≤ y ∧ y ≤ 1500)
    (hv : ∀ j, j ≤ n → v' j = if j = a then x else if a < j then v (j - 1) else v j) (hf : ∀ j, j ≤ n → f' j = if j = a then y else if a < j then f (j - 1) else f j)
    (p1 : ∀ j, j ≤ n → P' (66 + 2 * j) = if j = a then x else if a < j then P (66 + 2 * (j - 1)) else P (66 + 2 * j)) (p2 : ∀ j, j ≤ n → P' (67 + 2 * j) = if j = a then y else if a < j then P (67 + 2 * (j - 1)) else P (67 + 2 * j)) (hp : P' 65 = nI (n + 1)) : PF (n + 1) (nI (n + 1)) v' f' P' := by
  obtain ⟨-, -, -, hk, hs⟩ := h
  refine ⟨by omega, rfl, hp, fun k hk' => ?_, fun j k hj hk' => ?_⟩
  · rw [hv k (by omega), hf k (by omega), p1 k (by omega), p2 k (by omega)]
    by_cases c : k = a
    · rw [if_pos c, if_pos c, if_pos c, if_pos c]
      exact ⟨⟨rfl, rfl⟩, hx, hy⟩
    · rw [if_neg c, if_neg c, if_neg c, if_neg c]
      by_cases c2 : a < k
      · rw [if_pos c2, if_pos c2, if_pos c2, if_pos c2]
        exact hk (k - 1) (by omega)
      · rw [if_neg c2, if_neg c2, if_neg c2, if_neg c2]
        exact hk k (by omega)
  · rw [hv j (by omega), hv k (by omega)]
    by_cases c : j = a
    · rw [if_pos c, if_neg (by omega), if_pos (by omega)]
      exact hup _ (by omega) (by omega)
    · rw [if_neg c]
      by_cases c2 : a < j
      · rw [if_pos c2, if_neg (by omega), if_pos (by omega)]
        exact hs _ _ (by omega) (by omega)
      · rw [if_neg c2]
        by_cases c3 : k = a
        · rw [if_pos c3]
          exact hlow j (by omega)
        · rw [if_neg c3]
          by_cases c4 : a < k
          · rw [if_pos c4]
            rcases Nat.eq_or_lt_of_le (show j ≤ k - 1 by omega) with q | q
            · omega
            · exact hs _ _ q (by omega)
          · rw [if_neg c4]
            exact hs _ _ hj (by omega)
theorem L53_same (x : Int32) : ∀ (f : Nat) (p i : Int32) (M : Mm), f_X4_put_L53_2 x f p i M = f_X4_put_L53 x f p i M := by
  intro f
  induction f with
  | zero => intros; rfl
  | succ f ih =>
    intro p i M
    rw [f_X4_put_L53_2, f_X4_put_L53]
    simp only [ih]
theorem PF.n {n m : Nat} {C : Int32} {v f P v' f' P' : Nat → Int32} (h : PF n C v f P) (h' : PF m C v' f' P') : m = n := (nI_eq (by have := h'.1; omega) (by have := h.1; omega)).mp (h'.2.1.symm.trans h.2.1)
theorem s_setPoint (x1 x2 : Int32) {X Y : Mm} (h : Rel X Y) : ∃ r X' Y', f_X10_setPoint x1 x2 X = some (r, X') ∧ f_X11_setPoint x1 x2 Y = some (r, Y') ∧ Rel X' Y' := by
  obtain ⟨-, ⟨n, hF⟩, -⟩ := h.pg
  unfold f_X10_setPoint f_X11_setPoint
  rcases in_c x1 0 100000 X Y with ⟨w1, w2, -⟩ | ⟨w1, w2, a1, a2⟩
  · rw [w1, w2]; exact ⟨_, _, _, rfl, rfl, h⟩
  rcases in_c x2 500 1500 X Y with ⟨w3, w4, -⟩ | ⟨w3, w4, b1, b2⟩
  · rw [w1, w2, w3, w4]; exact ⟨_, _, _, rfl, rfl, h⟩
  rw [w1, w2, ob1_s, ob1_s, if_neg one_0, if_neg one_0, w3, w4, ob1_s, ob1_s, if_neg one_0, if_neg one_0]
  obtain ⟨a, ya, hPl⟩ := y_place hF x1
  obtain ⟨hn, hc, hp, hk, hs⟩ := id hF
  have hp' : gI Y 1 65 = nI n := hp
  have hc' : gI X 10 2 = nI n := hc
  rw [ya, ob1_s, hp', hc']
  have i1 : (66 : Int32) + (2 : Int32) * nI a = nI (66 + 2 * a) := (congrArg (nI 66 + ·) (nI_mul 2 _)).trans (nI_add _ _)
  have i2 : nI (66 + 2 * a) + (1 : Int32) = nI (67 + 2 * a) := by rw [nI_1]; congr 1; omega
  obtain ⟨X1, Y1, p1, p2, kx, ky, hr1⟩ := s_push h
  have hG := hr1.pg
  obtain ⟨-, ⟨n', hF1⟩, -⟩ := id hG
  have kx10 : X1.1 10 = X.1 10 := (kx 10 (by omega)).1 (by decide)
  have kx11 : X1.1 11 = X.1 11 := (kx 11 (by omega)).1 (by decide)
  have ky1 : Y1.1 1 = Y.1 1 := ky.1 1 (by decide) (by decide)
  obtain rfl : n' = n := by
    rw [kx10] at hF1
    exact hF.n hF1
  have hc1 : gI X1 10 2 = nI n' := hF1.2.1
  have hp1 : gI Y1 1 65 = nI n' := hF1.2.2.1
  rcases x_find hF x1 with ⟨b, hb, xf, hv⟩ | ⟨xf, hno⟩
  · obtain rfl := hPl.here hF hb hv
    have xf1 : f_X4_find x1 X1 = some (nI a) := by
      rcases x_find hF1 x1 with ⟨c, hc', e, hv'⟩ | ⟨-, hno'⟩
      · rw [kx11] at hv'
        obtain rfl := hPl.here hF hc' hv'
        exact e
      · exact absurd (by rw [kx11]; exact hv) (hno' a hb)
    have ysp : f_X11_speedAt (nI a) Y = some x1 := (y_speed (by omega)).trans (congrArg some ((hk a hb).1.1.trans hv))
    rw [xf, ob1_s, if_pos (show (0 : Int32) ≤ nI a from nI_pos' (by omega)), if_neg (nI_ge hb (by omega)), ysp, ob1_s, if_pos rfl, ob1_s, if_neg one_0, p1, p2, ob1_s, ob1_s, lt1_s, hp1]
    have eL : f_X11_setPoint_L92 (nI a) 1 1000 (nI n') Y1 = some Y1 := by
      rw [show (1000 : Nat) = 999 + 1 from rfl, f_X11_setPoint_L92, if_neg (nI_ge hb (by omega)), if_neg one_0]
    unfold f_X4_put
    rw [eL, ob1_s, xf1, ob1_s, if_neg (nI_pos (by omega)), if_neg (show ¬ (6 : Int32) ≤ nI a from nI_ge (b := 6) (by omega) (by decide)), chk_p (inb_n (by omega) (by decide)), ix_n (n := a) (by omega), i1]
    simp only [lt1_s, ob1_s, i2, chk_p (inb_n (c := 66 + 2 * a) (N := 159) (by omega) (by decide)), chk_p (inb_n (c := 67 + 2 * a) (N := 159) (by omega) (by decide)), ix_n (n := 66 + 2 * a) (by omega), ix_n (n := 67 + 2 * a) (by omega), if_neg one_0]
    have g1 : gI (wI X1 12 a x2) 10 2 = nI n' := hc1
    have g2 : gI (wI (wI Y1 1 (66 + 2 * a) x1) 1 (67 + 2 * a) x2) 1 65 = nI n' := by
      show (wI (wI Y1 1 (66 + 2 * a) x1) 1 (67 + 2 * a) x2).1 1 65 = _
      rw [wI_k (by omega), wI_k (by omega)]
      exact hp1
    rw [g1, g2, Int32.add_zero]
    refine ⟨nI n', wI X1 12 a x2, wI (wI (wI Y1 1 (66 + 2 * a) x1) 1 (67 + 2 * a) x2) 1 65 (nI n'), rfl, rfl, Rel.of (PG_pf hG (fun o h1 h2 h3 => wI_o h3) (fun k hk => ?_) ⟨n', hn, ?_, ?_, fun k hk' => ?_, fun j k hj hk' => ?_⟩) (Rest_pages (X := X1) (Y := Y1) (fun k hk => ⟨wI_o (by omega), rfl⟩) (fun q hq => by rw [wI_o hq, wI_o hq, wI_o hq]) (fun _ _ => rfl) hr1.rest)⟩
    · rw [wI_k (by omega), wI_k (by omega), wI_k (by omega)]
    · exact hF1.2.1
    · exact wI_e
    · obtain ⟨⟨q1, q2⟩, q3, q4⟩ := hF1.2.2.2.1 k hk'
      rw [wI_k (show 66 + 2 * k ≠ 65 by omega), wI_k (show 67 + 2 * k ≠ 65 by omega), wI_o (show 11 ≠ 12 by decide)]
      by_cases c : k = a
      · subst c
        rw [wI_k (by omega), wI_e, wI_e, wI_e]
        exact ⟨⟨by rw [kx11]; exact hv.symm, rfl⟩, q3, b1, b2⟩
      · rw [wI_k (by omega), wI_k (by omega), wI_k (by omega), wI_k (by omega), wI_k c]
        exact ⟨⟨q1, q2⟩, q3, q4⟩
    · rw [wI_o (show 11 ≠ 12 by decide)]
      exact hF1.2.2.2.2 j k hj hk'
  · have xf1 : f_X4_find x1 X1 = some (-1) := by
      rcases x_find hF1 x1 with ⟨c, hc', -, hv'⟩ | ⟨e, -⟩
      · rw [kx11] at hv'
        exact absurd hv' (hno c hc')
      · exact e
    have hup : ∀ k, a ≤ k → k < n' → x1 < X.1 11 k := fun k h1 h2 => by
      have z := hPl.2.2 (by omega)
      have z2 := hno k h2
      rw [i_eq] at z2
      rw [i_le] at z
      rw [i_lt]
      rcases Nat.eq_or_lt_of_le h1 with q | q
      · subst q; omega
      · have := hs a k q h2
        rw [i_lt] at this
        omega
    have y4 : (if nI n' ≤ nI a then some (0 : Int32) else ob1 (f_X11_speedAt (nI a) Y) fun r_5 => if r_5 = x1 then some (1 : Int32) else some 0) = some 0 := by
      by_cases c : a < n'
      · rw [if_neg (nI_ge c (by omega)), y_speed (by omega), ob1_s, if_neg (fun q => hno a c ((hk a c).1.1.symm.trans q))]
      · rw [if_pos (nI_le (by omega) (by have := hPl.1; omega))]
    rw [xf, ob1_s, if_neg (show ¬ (0 : Int32) ≤ -1 by decide), y4, ob1_s, if_pos rfl]
    rcases Nat.eq_or_lt_of_le hn with e6 | e6
    · subst e6
      rw [if_neg (show ¬ nI 6 < (6 : Int32) by decide), if_pos (show nI 6 = (6 : Int32) from rfl)]
      exact ⟨_, _, _, rfl, rfl, h⟩
    obtain ⟨M, m1, m11, m12, mo, mj⟩ := x_ins (X := X1) e6 (x := x1) hPl.1 (fun k hk' => by rw [kx11]; exact hPl.2.1 k hk') (fun k h1 h2 => by rw [kx11]; exact hup k h1 h2)
    obtain ⟨N, n1, n66, n67, nl, no, nj⟩ := y_ins (Y := Y1) e6 hPl.1
    have a5 : a < 6 := by have := hPl.1; omega
    rw [if_pos (show nI n' < (6 : Int32) from nI_lt e6 (by decide)), if_neg (show ¬ nI n' = (6 : Int32) from fun q => absurd ((nI_eq (by omega) (by decide)).mp (show nI n' = nI 6 from q)) (by omega)), p1, p2, ob1_s, ob1_s, lt1_s, hp1, n1, ob1_s]
    unfold f_X4_put
    rw [xf1, ob1_s, if_pos (show (-1 : Int32) < 0 by decide), hc1, if_neg (nI_pos (by omega)), if_pos (show nI n' < (6 : Int32) from nI_lt e6 (by decide)), lt1_s, lt1_s, m1, ob2_s, i1]
    simp only [lt1_s, ob1_s, i2, chk_p (inb_n (c := a) (N := 6) a5 (by decide)), ix_n (n := a) (by omega), chk_p (inb_n (c := 66 + 2 * a) (N := 159) (by omega) (by decide)), chk_p (inb_n (c := 67 + 2 * a) (N := 159) (by omega) (by decide)), ix_n (n := 66 + 2 * a) (by omega), ix_n (n := 67 + 2 * a) (by omega), if_true, reduceIte]
    have g1 : gI (wI (wI M 11 a x1) 12 a x2) 10 2 = nI n' := by
      show (wI (wI M 11 a x1) 12 a x2).1 10 2 = _
      rw [wI_o (by decide), wI_o (by decide), mo 10 (by decide) (by decide)]
      exact hc1
    have g2 : gI (wI (wI N 1 (66 + 2 * a) x1) 1 (67 + 2 * a) x2) 1 65 = nI n' := by
      show (wI (wI N 1 (66 + 2 * a) x1) 1 (67 + 2 * a) x2).1 1 65 = _
      rw [wI_k (by omega), wI_k (by omega), nl 65 (by decide)]
      exact hp1
    rw [g1, g2, nI_1]
    have e0 : ∀ M : Mm, gI (wI M 10 2 (nI (n' + 1))) 10 2 = nI (n' + 1) := fun M => wI_e
    have e1 : ∀ M : Mm, gI (wI M 1 65 (nI (n' + 1))) 1 65 = nI (n' + 1) := fun M => wI_e
    rw [e0, e1]
    have hP : PG (wI (wI (wI M 11 a x1) 12 a x2) 10 2 (nI (n' + 1))).1 (X1.2 0) ((wI (wI (wI N 1 (66 + 2 * a) x1) 1 (67 + 2 * a) x2) 1 65 (nI (n' + 1))).1 1) (Y1.2 2) := by
      refine PG_pf hG (fun o h10 h11 h12 => ?_) (fun k hk => ?_) ⟨n' + 1, ?_⟩
      · rw [wI_o h10, wI_o h12, wI_o h11, mo o h11 h12]
      · rw [wI_k (by omega), wI_k (by omega), wI_k (by omega)]
        rcases hk with q | q
        · exact nl k (by omega)
        · rcases Nat.mod_two_eq_zero_or_one k with e | e
          · obtain ⟨j, rfl⟩ : ∃ j, k = 66 + 2 * j := ⟨(k - 66) / 2, by omega⟩
            rw [n66, if_neg (by omega)]
          · obtain ⟨j, rfl⟩ : ∃ j, k = 67 + 2 * j := ⟨(k - 67) / 2, by omega⟩
            rw [n67, if_neg (by omega)]
      · rw [show (wI (wI (wI M 11 a x1) 12 a x2) 10 2 (nI (n' + 1))).1 10 2 = nI (n' + 1) from wI_e]
        refine PF_ins hF1 e6 hPl.1 (x := x1) (y := x2) (fun k hk' => by rw [kx11]; exact hPl.2.1 k hk') (fun k h1 h2 => by rw [kx11]; exact hup k h1 h2) ⟨a1, a2⟩ ⟨b1, b2⟩ (fun j hj => ?_) (fun j hj => ?_) (fun j hj => ?_) (fun j hj => ?_) wI_e
        · rw [wI_o (by decide), wI_o (by decide)]
          show (if 11 = 11 ∧ j = a then x1 else M.1 11 j) = _
          rw [m11]
          by_cases c : j = a
          · rw [if_pos ⟨rfl, c⟩, if_pos c]
          · rw [if_neg (fun q => c q.2), if_neg c]
            by_cases c2 : a < j
            · rw [if_pos ⟨c2, hj⟩, if_pos c2]
            · rw [if_neg (fun q => c2 q.1), if_neg c2]
        · rw [wI_o (by decide)]
          show (if 12 = 12 ∧ j = a then x2 else (wI M 11 a x1).1 12 j) = _
          rw [wI_o (by decide), m12]
          by_cases c : j = a
          · rw [if_pos ⟨rfl, c⟩, if_pos c]
          · rw [if_neg (fun q => c q.2), if_neg c]
            by_cases c2 : a < j
            · rw [if_pos ⟨c2, hj⟩, if_pos c2]
            · rw [if_neg (fun q => c2 q.1), if_neg c2]
        · rw [wI_k (by omega), wI_k (by omega)]
          by_cases c : j = a
          · subst c
            rw [wI_e, if_pos rfl]
          · rw [wI_k (by omega), n66, if_neg c]
            by_cases c2 : a < j
            · rw [if_pos ⟨c2, hj⟩, if_pos c2]
            · rw [if_neg (fun q => c2 q.1), if_neg c2]
        · rw [wI_k (by omega)]
          by_cases c : j = a
          · subst c
            rw [wI_e, if_pos rfl]
          · rw [wI_k (by omega), wI_k (by omega), n67, if_neg c]
            by_cases c2 : a < j
            · rw [if_pos ⟨c2, hj⟩, if_pos c2]
            · rw [if_neg (fun q => c2 q.1), if_neg c2]
    refine ⟨nI (n' + 1), wI (wI (wI M 11 a x1) 12 a x2) 10 2 (nI (n' + 1)), wI (wI (wI N 1 (66 + 2 * a) x1) 1 (67 + 2 * a) x2) 1 65 (nI (n' + 1)), rfl, rfl, Rel.of ?_ (Rest_pages (X := X1) (Y := Y1) (fun k hk => ⟨?_, ?_⟩) (fun q hq => ?_) (fun q _ => ?_) hr1.rest)⟩
    · show PG _ (M.2 0) _ (N.2 2)
      rw [mj, nj]
      exact hP
    · rw [wI_o (by omega), wI_o (by omega), wI_o (by omega), mo k (by omega) (by omega)]
    · show M.2 k = _
      rw [mj]
    · rw [wI_o hq, wI_o hq, wI_o hq, no q hq]
    · show N.2 q = _
      rw [nj]
/-! removing -/
theorem x_del {X : Mm} {n a : Nat} (hn : n ≤ 6) (ha : a < n) (hc : X.1 10 2 = nI n) :
    ∃ M, f_X4_take_L32 1000 (nI (a + 1)) X = some M ∧ (∀ j, M.1 11 j = delA (X.1 11) a n j) ∧ (∀ j, M.1 12 j = delA (X.1 12) a n j) ∧ (∀ k, k ≠ 11 → k ≠ 12 → M.1 k = X.1 k) ∧ M.2 = X.2 := by
  obtain ⟨b, hb, hP⟩ := lp (fun f (s : Int32 × Mm) => f_X4_take_L32 f s.1 s.2) (fun k (s : Int32 × Mm) => ∃ i, i + k = n ∧ a < i ∧ s.1 = nI i ∧ (∀ j, s.2.1 11 j = if a ≤ j ∧ j + 1 < i then X.1 11 (j + 1) else X.1 11 j) ∧ (∀ j, s.2.1 12 j = if a ≤ j ∧ j + 1 < i then X.1 12 (j + 1) else X.1 12 j) ∧ (∀ k, k ≠ 11 → k ≠ 12 → s.2.1 k = X.1 k) ∧ s.2.2 = X.2) (fun M => (∀ j, M.1 11 j = delA (X.1 11) a n j) ∧ (∀ j, M.1 12 j = delA (X.1 12) a n j) ∧ (∀ k, k ≠ 11 → k ≠ 12 → M.1 k = X.1 k) ∧ M.2 = X.2) (fun f k s hI => by
    obtain ⟨i0, M⟩ := s
    obtain ⟨i, hik, hai, rfl, h11, h12, ho, hj⟩ := hI
    show (∃ b, f_X4_take_L32 (f + 1) (nI i) M = some b ∧ _) ∨ (∃ (k' : Nat) (s' : Int32 × Mm), k = k' + 1 ∧ _ ∧ f_X4_take_L32 (f + 1) (nI i) M = f_X4_take_L32 f s'.1 s'.2)
    have g : gI M 10 2 = nI n := (congrFun (ho 10 (by decide) (by decide)) 2).trans hc
    rw [f_X4_take_L32, g]
    rcases Nat.eq_zero_or_pos k with e | e
    · subst e
      obtain rfl : i = n := by omega
      refine Or.inl ⟨M, ?_, h11, h12, ho, hj⟩
      rw [if_pos (nI_le (Nat.le_refl _) (by omega)), ite_self]
    · have em : nI i - (1 : Int32) = nI (i - 1) := nI_sub (b := 1) (by omega)
      have g1 : gI M 11 i = X.1 11 i := by
        show M.1 11 i = _
        rw [h11, if_neg (by omega)]
      have g2 : gI (wI M 11 (i - 1) (X.1 11 i)) 12 i = X.1 12 i := by
        show (wI M 11 (i - 1) (X.1 11 i)).1 12 i = _
        rw [wI_o (by decide), h12, if_neg (by omega)]
      refine Or.inr ⟨k - 1, (nI (i + 1), wI (wI M 11 (i - 1) (X.1 11 i)) 12 (i - 1) (X.1 12 i)), by omega, ⟨i + 1, by omega, by omega, rfl, fun j => ?_, fun j => ?_, fun q h1 h2 => ?_, hj⟩, ?_⟩
      · show (wI (wI M 11 (i - 1) (X.1 11 i)) 12 (i - 1) (X.1 12 i)).1 11 j = _
        rw [wI_o (by decide)]
        show (if 11 = 11 ∧ j = i - 1 then X.1 11 i else M.1 11 j) = _
        rw [h11]
        by_cases c : j = i - 1
        · rw [if_pos ⟨rfl, c⟩, if_pos (by omega), c, Nat.sub_add_cancel (by omega)]
        · rw [if_neg (fun q => c q.2)]
          by_cases c2 : a ≤ j ∧ j + 1 < i
          · rw [if_pos c2, if_pos (by omega)]
          · rw [if_neg c2, if_neg (by omega)]
      · show (if 12 = 12 ∧ j = i - 1 then X.1 12 i else (wI M 11 (i - 1) (X.1 11 i)).1 12 j) = _
        rw [wI_o (by decide), h12]
        by_cases c : j = i - 1
        · rw [if_pos ⟨rfl, c⟩, if_pos (by omega), c, Nat.sub_add_cancel (by omega)]
        · rw [if_neg (fun q => c q.2)]
          by_cases c2 : a ≤ j ∧ j + 1 < i
          · rw [if_pos c2, if_pos (by omega)]
          · rw [if_neg c2, if_neg (by omega)]
      · show (wI (wI M 11 _ _) 12 _ _).1 q = _
        rw [wI_o h2, wI_o h1, ho q h1 h2]
      · rw [if_neg (show ¬ (6 : Int32) ≤ nI i from nI_ge (b := 6) (by omega) (by decide)), if_neg (nI_ge (by omega) (by omega)), em]
        simp only [lt1_s, chk_p (inb_n (c := i) (N := 6) (by omega) (by decide)), chk_p (inb_n (c := i - 1) (N := 6) (by omega) (by decide)), ix_n (n := i) (by omega), ix_n (n := i - 1) (by omega)]
        rw [g1, g2, nI_1]) (n - (a + 1)) (nI (a + 1), X) 1000 ⟨a + 1, by omega, by omega, rfl, fun j => by show X.1 11 j = _; rw [if_neg (by omega)], fun j => by show X.1 12 j = _; rw [if_neg (by omega)], fun _ _ _ => rfl, rfl⟩ (by omega)
  exact ⟨b, hb, hP⟩
theorem y_del {Y : Mm} {n a : Nat} (hn : n ≤ 6) (ha : a < n) (hc : Y.1 1 65 = nI n) :
    ∃ M, f_X11_removePoint_L55 1000 (nI a) Y = some M ∧ (∀ j, M.1 1 (66 + 2 * j) = if a ≤ j ∧ j + 1 < n then Y.1 1 (66 + 2 * (j + 1)) else Y.1 1 (66 + 2 * j)) ∧ (∀ j, M.1 1 (67 + 2 * j) = if a ≤ j ∧ j + 1 < n then Y.1 1 (67 + 2 * (j + 1)) else Y.1 1 (67 + 2 * j)) ∧ (∀ k, k < 66 → M.1 1 k = Y.1 1 k) ∧ (∀ q, q ≠ 1 → M.1 q = Y.1 q) ∧ M.2 = Y.2 := by
  obtain ⟨b, hb, hP⟩ := lp (fun f (s : Int32 × Mm) => f_X11_removePoint_L55 f s.1 s.2) (fun k (s : Int32 × Mm) => ∃ i, i + k + 1 = n ∧ a ≤ i ∧ s.1 = nI i ∧ (∀ j, s.2.1 1 (66 + 2 * j) = if a ≤ j ∧ j < i then Y.1 1 (66 + 2 * (j + 1)) else Y.1 1 (66 + 2 * j)) ∧ (∀ j, s.2.1 1 (67 + 2 * j) = if a ≤ j ∧ j < i then Y.1 1 (67 + 2 * (j + 1)) else Y.1 1 (67 + 2 * j)) ∧ (∀ k, k < 66 → s.2.1 1 k = Y.1 1 k) ∧ (∀ q, q ≠ 1 → s.2.1 q = Y.1 q) ∧ s.2.2 = Y.2) (fun M => (∀ j, M.1 1 (66 + 2 * j) = if a ≤ j ∧ j + 1 < n then Y.1 1 (66 + 2 * (j + 1)) else Y.1 1 (66 + 2 * j)) ∧ (∀ j, M.1 1 (67 + 2 * j) = if a ≤ j ∧ j + 1 < n then Y.1 1 (67 + 2 * (j + 1)) else Y.1 1 (67 + 2 * j)) ∧ (∀ k, k < 66 → M.1 1 k = Y.1 1 k) ∧ (∀ q, q ≠ 1 → M.1 q = Y.1 q) ∧ M.2 = Y.2) (fun f k s hI => by
    obtain ⟨i0, M⟩ := s
    obtain ⟨i, hik, hai, rfl, h66, h67, hl, ho, hj⟩ := hI
    show (∃ b, f_X11_removePoint_L55 (f + 1) (nI i) M = some b ∧ _) ∨ (∃ (k' : Nat) (s' : Int32 × Mm), k = k' + 1 ∧ _ ∧ f_X11_removePoint_L55 (f + 1) (nI i) M = f_X11_removePoint_L55 f s'.1 s'.2)
    have s66 : ∀ j, M.1 1 (66 + 2 * j) = if a ≤ j ∧ j < i then Y.1 1 (66 + 2 * (j + 1)) else Y.1 1 (66 + 2 * j) := h66
    have s67 : ∀ j, M.1 1 (67 + 2 * j) = if a ≤ j ∧ j < i then Y.1 1 (67 + 2 * (j + 1)) else Y.1 1 (67 + 2 * j) := h67
    have g : gI M 1 65 = nI n := (hl 65 (by decide)).trans hc
    rw [f_X11_removePoint_L55, g, nI_1]
    rcases Nat.eq_zero_or_pos k with e | e
    · subst e
      rw [if_pos (nI_le (by omega) (by omega))]
      refine Or.inl ⟨M, rfl, fun j => ?_, fun j => ?_, hl, ho, hj⟩
      · rw [s66]
        by_cases c : a ≤ j ∧ j < i
        · rw [if_pos c, if_pos (by omega)]
        · rw [if_neg c, if_neg (by omega)]
      · rw [s67]
        by_cases c : a ≤ j ∧ j < i
        · rw [if_pos c, if_pos (by omega)]
        · rw [if_neg c, if_neg (by omega)]
    · have i1 : (66 : Int32) + (2 : Int32) * nI i = nI (66 + 2 * i) := (congrArg (nI 66 + ·) (nI_mul 2 _)).trans (nI_add _ _)
      have i2 : nI (66 + 2 * i) + (1 : Int32) = nI (67 + 2 * i) := by rw [nI_1]; congr 1; omega
      have hw : ∀ (v : Int32), (wI M 1 (66 + 2 * i) v).1 1 (67 + 2 * (i + 1)) = Y.1 1 (67 + 2 * (i + 1)) := fun v => by rw [wI_k (by omega), s67, if_neg (by omega)]
      refine Or.inr ⟨k - 1, (nI (i + 1), wI (wI M 1 (66 + 2 * i) (Y.1 1 (66 + 2 * (i + 1)))) 1 (67 + 2 * i) (Y.1 1 (67 + 2 * (i + 1)))), by omega, ⟨i + 1, by omega, by omega, rfl, fun j => ?_, fun j => ?_, fun q hq => ?_, fun q hq => ?_, hj⟩, ?_⟩
      · show (wI (wI M 1 (66 + 2 * i) (Y.1 1 (66 + 2 * (i + 1)))) 1 (67 + 2 * i) (Y.1 1 (67 + 2 * (i + 1)))).1 1 (66 + 2 * j) = _
        rw [wI_k (by omega)]
        by_cases c : j = i
        · subst c
          rw [wI_e, if_pos (by omega)]
        · rw [wI_k (by omega), s66]
          by_cases c2 : a ≤ j ∧ j < i
          · rw [if_pos c2, if_pos (by omega)]
          · rw [if_neg c2, if_neg (by omega)]
      · show (wI (wI M 1 (66 + 2 * i) (Y.1 1 (66 + 2 * (i + 1)))) 1 (67 + 2 * i) (Y.1 1 (67 + 2 * (i + 1)))).1 1 (67 + 2 * j) = _
        by_cases c : j = i
        · subst c
          rw [wI_e, if_pos (by omega)]
        · rw [wI_k (by omega), wI_k (by omega), s67]
          by_cases c2 : a ≤ j ∧ j < i
          · rw [if_pos c2, if_pos (by omega)]
          · rw [if_neg c2, if_neg (by omega)]
      · show (wI (wI M 1 _ _) 1 _ _).1 1 q = _
        rw [wI_k (by omega), wI_k (by omega)]
        exact hl q hq
      · show (wI (wI M 1 _ _) 1 _ _).1 q = _
        rw [wI_o hq, wI_o hq]
        exact ho q hq
      · rw [if_neg (nI_ge (by omega) (by omega)), y_speed (by omega), ob1_s, i1]
        simp only [lt1_s, ob1_s, chk_p (inb_n (c := 66 + 2 * i) (N := 159) (by omega) (by decide)), ix_n (n := 66 + 2 * i) (by omega)]
        rw [y_factor (by omega), ob1_s, i2, chk_p (inb_n (by omega) (by decide)), ix_n (by omega), s66, if_neg (by omega), hw]) (n - (a + 1)) (nI a, Y) 1000 ⟨a, by omega, by omega, rfl, fun j => by show Y.1 1 _ = _; rw [if_neg (by omega)], fun j => by show Y.1 1 _ = _; rw [if_neg (by omega)], fun _ _ => rfl, fun _ _ => rfl, rfl⟩ (by omega)
  exact ⟨b, hb, hP⟩
theorem PF_del {n a : Nat} {C : Int32} {v f P v' f' P' : Nat → Int32} (h : PF n C v f P) (ha : a < n) (hv : ∀ j, v' j = delA v a n j) (hf : ∀ j, f' j = delA f a n j)
    (p1 : ∀ j, P' (66 + 2 * j) = if a ≤ j ∧ j + 1 < n then P (66 + 2 * (j + 1)) else P (66 + 2 * j)) (p2 : ∀ j, P' (67 + 2 * j) = if a ≤ j ∧ j + 1 < n then P (67 + 2 * (j + 1)) else P (67 + 2 * j)) (hp : P' 65 = nI (n - 1)) : PF (n - 1) (nI (n - 1)) v' f' P' := by
  obtain ⟨hn, -, -, hk, hs⟩ := h
  refine ⟨by omega, rfl, hp, fun k hk' => ?_, fun j k hj hk' => ?_⟩
  · rw [hv k, hf k, p1 k, p2 k]
    unfold delA
    by_cases c : a ≤ k ∧ k + 1 < n
    · rw [if_pos c, if_pos c, if_pos c, if_pos c]
      exact hk (k + 1) (by omega)
    · rw [if_neg c, if_neg c, if_neg c, if_neg c]
      exact hk k (by omega)
  · rw [hv j, hv k]
    unfold delA
    by_cases c : a ≤ j ∧ j + 1 < n
    · rw [if_pos c, if_pos (by omega)]
      exact hs _ _ (by omega) (by omega)
    · rw [if_neg c]
      by_cases c2 : a ≤ k ∧ k + 1 < n
      · rw [if_pos c2]
        exact hs _ _ (by omega) (by omega)
      · rw [if_neg c2]
        exact hs _ _ hj (by omega)
theorem s_removePoint (x1 : Int32) {X Y : Mm} (h : Rel X Y) : ∃ r X' Y', f_X10_removePoint x1 X = some (r, X') ∧ f_X11_removePoint x1 Y = some (r, Y') ∧ Rel X' Y' := by
  obtain ⟨-, ⟨n, hF⟩, -⟩ := h.pg
  unfold f_X10_removePoint f_X11_removePoint
  rcases in_c x1 0 100000 X Y with ⟨w1, w2, -⟩ | ⟨w1, w2, a1, a2⟩
  · rw [w1, w2]; exact ⟨_, _, _, rfl, rfl, h⟩
  rw [w1, w2, ob1_s, ob1_s, if_neg one_0, if_neg one_0]
  obtain ⟨a, ya, hPl⟩ := y_place hF x1
  obtain ⟨hn, hc, hp, hk, hs⟩ := id hF
  have hp' : gI Y 1 65 = nI n := hp
  rw [ya, ob1_s, hp']
  rcases x_find hF x1 with ⟨b, hb, xf, hv⟩ | ⟨xf, hno⟩
  · obtain rfl := hPl.here hF hb hv
    have ysp : f_X11_speedAt (nI a) Y = some x1 := (y_speed (by omega)).trans (congrArg some ((hk a hb).1.1.trans hv))
    obtain ⟨X1, Y1, p1, p2, kx, ky, hr1⟩ := s_push h
    have hG := hr1.pg
    obtain ⟨-, ⟨n', hF1⟩, -⟩ := id hG
    have kx10 : X1.1 10 = X.1 10 := (kx 10 (by omega)).1 (by decide)
    have ky1 : Y1.1 1 = Y.1 1 := ky.1 1 (by decide) (by decide)
    obtain rfl : n' = n := by
      rw [kx10] at hF1
      exact hF.n hF1
    have hc1 : gI X1 10 2 = nI n' := hF1.2.1
    obtain ⟨M, m1, m11, m12, mo, mj⟩ := x_del hF1.1 hb hF1.2.1
    obtain ⟨N, n1, n66, n67, nl, no, nj⟩ := y_del hF1.1 hb hF1.2.2.1
    have gM : gI M 10 2 = nI n' := (congrFun (mo 10 (by decide) (by decide)) 2).trans hF1.2.1
    have gN : gI N 1 65 = nI n' := (nl 65 (by decide)).trans hF1.2.2.1
    have np : nI n' - (1 : Int32) = nI (n' - 1) := nI_sub (b := 1) (by omega)
    have nne : ¬ nI a = nI n' := fun q => absurd ((nI_eq (by omega) (by omega)).mp q) (by omega)
    have yf : f_X11_factorAt (nI a) Y1 = some (X1.1 12 a) := (y_factor (by omega)).trans (congrArg some (hF1.2.2.2.1 a hb).1.2)
    rw [xf, ob1_s, if_pos (show (0 : Int32) ≤ nI a from nI_pos' (by omega)), if_neg nne, ysp, ob1_s, if_pos rfl, p1, p2, ob1_s, ob1_s, yf, ob1_s, n1, ob1_s, lt1_s, gN, np]
    unfold f_X4_take
    rw [if_neg (nI_pos (by omega)), hc1, if_neg (nI_ge hb (by omega)), if_pos (show nI a < (6 : Int32) from nI_lt (b := 6) (by omega) (by decide)), chk_p (inb_n (by omega) (by decide)), ix_n (by omega), nI_1]
    simp only [lt1_s]
    rw [m1, ob1_s, gM, np, ob2_s]
    have hP : PG (wI M 10 2 (nI (n' - 1))).1 (X1.2 0) ((wI N 1 65 (nI (n' - 1))).1 1) (Y1.2 2) := by
      refine PG_pf hG (fun o h10 h11 h12 => ?_) (fun k hk => ?_) ⟨n' - 1, ?_⟩
      · rw [wI_o h10, mo o h11 h12]
      · rw [wI_k (by omega)]
        rcases hk with q | q
        · exact nl k (by omega)
        · rcases Nat.mod_two_eq_zero_or_one k with e | e
          · obtain ⟨j, rfl⟩ : ∃ j, k = 66 + 2 * j := ⟨(k - 66) / 2, by omega⟩
            rw [n66, if_neg (by omega)]
          · obtain ⟨j, rfl⟩ : ∃ j, k = 67 + 2 * j := ⟨(k - 67) / 2, by omega⟩
            rw [n67, if_neg (by omega)]
      · rw [show (wI M 10 2 (nI (n' - 1))).1 10 2 = nI (n' - 1) from wI_e]
        refine PF_del hF1 hb (fun j => ?_) (fun j => ?_) (fun j => ?_) (fun j => ?_) wI_e
        · rw [wI_o (by decide)]; exact m11 j
        · rw [wI_o (by decide)]; exact m12 j
        · rw [wI_k (by omega)]; exact n66 j
        · rw [wI_k (by omega)]; exact n67 j
    refine ⟨gI X1 12 a, wI M 10 2 (nI (n' - 1)), wI N 1 65 (nI (n' - 1)), rfl, rfl, Rel.of ?_ (Rest_pages (X := X1) (Y := Y1) (fun k hk => ⟨?_, ?_⟩) (fun q hq => ?_) (fun q _ => ?_) hr1.rest)⟩
    · show PG _ (M.2 0) _ (N.2 2)
      rw [mj, nj]
      exact hP
    · rw [wI_o (by omega), mo k (by omega) (by omega)]
    · show M.2 k = _
      rw [mj]
    · rw [wI_o hq, no q hq]
    · show N.2 q = _
      rw [nj]
  · rw [xf, ob1_s, if_neg (show ¬ (0 : Int32) ≤ -1 by decide)]
    by_cases c : a < n
    · rw [if_neg (fun q => absurd ((nI_eq (by omega) (by omega)).mp q) (by omega)), y_speed (by omega), ob1_s, if_neg (fun q => hno a c ((hk a c).1.1.symm.trans q))]
      exact ⟨_, _, _, rfl, rfl, h⟩
    · obtain rfl : a = n := by have := hPl.1; omega
      rw [if_pos rfl]
      exact ⟨_, _, _, rfl, rfl, h⟩

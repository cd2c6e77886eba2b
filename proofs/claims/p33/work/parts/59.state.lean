/-! TEXT, SETTINGS, SLOTS, UNDO: both sides answer alike and stay alike -/
theorem Rel_text {X Y X' Y' : Mm} (hx : ∀ k, k < 229 → X'.1 k = X.1 k) (hx2 : X'.2 = X.2) (hy : ∀ a, a ≠ 0 → a ≠ 8 → Y'.1 a = Y.1 a) (hy4 : Y'.1 0 4 = Y.1 0 4) (hy2 : Y'.2 = Y.2) (hT : TX X' Y') (h : Rel X Y) : Rel X' Y' := by
  obtain ⟨-, hH, hS, -⟩ := id h
  refine Rel.of ?_ ⟨?_, ?_, hT⟩
  · refine PG_congr (fun o j ho _ _ => congrFun (hx o (by omega)) j) ⟨by rw [hx2], by rw [hx2]⟩ (fun k _ => congrFun (hy 1 (by decide) (by decide)) k) ⟨by rw [hy2], by rw [hy2]⟩ h.pg
  · exact HX_keep (fun k h1 h2 => ⟨hx k (by omega), by rw [hx2]⟩) (congrFun (hx 225 (by decide)) 1) hy4 ⟨hy 3 (by decide) (by decide), by rw [hy2]⟩ hH
  · exact SL_keep (fun k h1 h2 => ⟨hx k (by omega), by rw [hx2]⟩) (fun a ha => hy a (by omega) (by omega)) (by rw [hy2]) hS
theorem s_append (x1 : Int32) {X Y : Mm} (h : Rel X Y) : ∃ r X' Y', f_X10_append x1 X = some (r, X') ∧ f_X11_append x1 Y = some (r, Y') ∧ Rel X' Y' := by
  obtain ⟨-, -, -, t, ht, tx, ty, tk⟩ := id h
  unfold f_X10_append f_X11_append f_X9_put
  rcases in_c x1 32 126 X Y with ⟨w1, w2, -⟩ | ⟨w1, w2, -⟩
  · rw [w1, w2]; exact ⟨_, _, _, rfl, rfl, h⟩
  · rw [w1, w2, ob1_s, ob1_s, if_neg one_0, if_neg one_0, tx, ty]
    rcases Nat.eq_or_lt_of_le ht with e | e
    · subst e
      rw [if_neg (show ¬ nI 100 < (100 : Int32) by decide), if_pos (show nI 100 = (100 : Int32) from rfl)]
      exact ⟨_, _, _, rfl, rfl, h⟩
    · rw [if_pos (show nI t < (100 : Int32) from nI_lt e (by decide)), if_neg (nI_pos (by omega)), if_neg (show ¬ (100 : Int32) ≤ nI t from nI_ge e (by decide)), if_neg (show ¬ nI t = (100 : Int32) from fun q => absurd ((nI_eq (by omega) (by decide)).mp (show nI t = nI 100 from q)) (by omega)), chk_p (inb_n e (by decide)), ix_n (by omega)]
      simp only [lt1_s, ob1_s, chk_p (inb_n (c := t) (N := 100) e (by decide))]
      have g1 : gI (wI X 231 t x1) 230 1 = nI t := tx
      have g2 : gI (wI Y 8 t x1) 0 9 = nI t := ty
      rw [g1, g2, nI_1]
      refine ⟨nI (t + 1), wI (wI X 231 t x1) 230 1 (nI (t + 1)), wI (wI Y 8 t x1) 0 9 (nI (t + 1)), rfl, rfl, Rel_text (X := X) (Y := Y) (fun k hk => ?_) rfl (fun a h0 h8 => ?_) rfl rfl ⟨t + 1, by omega, rfl, rfl, fun k hk => ?_⟩ h⟩
      · rw [wI_o (by omega), wI_o (by omega)]
      · rw [wI_o h0, wI_o h8]
      · rw [show (wI (wI X 231 t x1) 230 1 (nI (t + 1))).1 231 = (wI X 231 t x1).1 231 from wI_o (by decide), show (wI (wI Y 8 t x1) 0 9 (nI (t + 1))).1 8 = (wI Y 8 t x1).1 8 from wI_o (by decide)]
        show (if 231 = 231 ∧ k = t then x1 else X.1 231 k) = if 8 = 8 ∧ k = t then x1 else Y.1 8 k
        by_cases c : k = t
        · rw [if_pos ⟨rfl, c⟩, if_pos ⟨rfl, c⟩]
        · rw [if_neg (fun q => c q.2), if_neg (fun q => c q.2)]
          exact tk k (by omega)
theorem s_clearText {X Y : Mm} (h : Rel X Y) : ∃ r X' Y', f_X10_clearText X = some (r, X') ∧ f_X11_clearText Y = some (r, Y') ∧ Rel X' Y' := by
  obtain ⟨-, -, -, t, ht, tx, ty, tk⟩ := id h
  unfold f_X10_clearText f_X11_clearText
  rw [tx, ty]
  refine ⟨nI t, wI X 230 1 0, wI Y 0 9 0, rfl, rfl, Rel_text (X := X) (Y := Y) (fun k hk => wI_o (by omega)) rfl (fun a h0 h8 => wI_o h0) rfl rfl ⟨0, by omega, rfl, rfl, fun k hk => absurd hk (by omega)⟩ h⟩
/-- a page of which the settings alone were changed -/
theorem PG_ps {I I' : Nat → Nat → Int32} {J : Nat → Int64} {P P' : Nat → Int32} {V : Nat → Int64} (h : PG I J P V) (hI : ∀ o, o ≠ 13 → I' o = I o) (hP : ∀ k, k < 78 ∨ 83 ≤ k → P' k = P k) (hS : PS (I' 13) P') : PG I' J P' V := by
  obtain ⟨⟨n, hA⟩, ⟨m, hF⟩, -, ⟨r, hR⟩, hsw, hcl, hv⟩ := h
  refine ⟨⟨n, PA_congr (congrFun (hI 0 (by decide)) 1) (fun i hi => ⟨fun j _ => congrFun (hI _ (by omega)) j, fun j _ => congrFun (hI _ (by omega)) j⟩) (fun k hk => hP k (by omega)) hA⟩, ⟨m, PF_congr (congrFun (hI 10 (by decide)) 2) (fun k hk => ⟨congrFun (hI 11 (by decide)) k, congrFun (hI 12 (by decide)) k⟩) (fun k h1 h2 => hP k (by omega)) hF⟩, hS, ⟨r, PR_congr (congrFun (hI 14 (by decide)) 1) (fun k hk j hj => congrFun (hI _ (by omega)) j) (fun k h1 h2 => hP k (by omega)) hR⟩, ?_, ?_, hv⟩
  · rw [hI 0 (by decide), hP 83 (by decide)]
    exact hsw
  · rw [hI 0 (by decide), hP 84 (by decide), hP 85 (by decide)]
    exact hcl
theorem PS_set {g P : Nat → Int32} (h : PS g P) {j : Nat} (hj : j < 5) {v lo hi : Int32} (hlo : sSETTING_LOW j = lo) (hhi : sSETTING_HIGH j = hi) (h1 : lo ≤ v) (h2 : v ≤ hi) : PS (upd g j v) (upd P (78 + j) v) := by
  subst hlo; subst hhi
  obtain ⟨⟨p0, p1, p2, p3, p4⟩, g0, g1, g2, g3, g4⟩ := h
  have e : ∀ (f : Nat → Int32) (a b : Nat), upd f a v b = if b = a then v else f b := fun _ _ _ => rfl
  have hc : j = 0 ∨ j = 1 ∨ j = 2 ∨ j = 3 ∨ j = 4 := by omega
  unfold PS
  simp only [e]
  rcases hc with rfl | rfl | rfl | rfl | rfl
  · exact ⟨⟨rfl, p1, p2, p3, p4⟩, ⟨h1, h2⟩, g1, g2, g3, g4⟩
  · exact ⟨⟨p0, rfl, p2, p3, p4⟩, g0, ⟨h1, h2⟩, g2, g3, g4⟩
  · exact ⟨⟨p0, p1, rfl, p3, p4⟩, g0, g1, ⟨h1, h2⟩, g3, g4⟩
  · exact ⟨⟨p0, p1, p2, rfl, p4⟩, g0, g1, g2, ⟨h1, h2⟩, g4⟩
  · exact ⟨⟨p0, p1, p2, p3, rfl⟩, g0, g1, g2, g3, ⟨h1, h2⟩⟩
theorem s_set (x1 x2 : Int32) {X Y : Mm} (h : Rel X Y) : ∃ r X' Y', f_X10_set x1 x2 X = some (r, X') ∧ f_X11_set x1 x2 Y = some (r, Y') ∧ Rel X' Y' := by
  unfold f_X10_set f_X11_set
  by_cases h0 : x1 < 0
  · rw [if_pos h0, show f_X11_in x1 0 4 Y = some 0 from if_pos h0]
    exact ⟨_, _, _, rfl, rfl, h⟩
  by_cases h5 : x1 < 5
  · obtain ⟨j, hj, rfl⟩ := nI_of h0
    have hj5 : j < 5 := by
      rcases Nat.lt_or_ge j 5 with q | q
      · exact q
      · exact absurd h5 (show ¬ nI j < (5 : Int32) from nI_nlt q hj)
    have hin : f_X11_in (nI j) 0 4 Y = some 1 := by
      unfold f_X11_in
      rw [if_neg h0, if_neg (show ¬ (4 : Int32) < nI j from nI_nlt (a := 4) (by omega) (by decide))]
    obtain ⟨lo, hi, e1, e2, e3, e4⟩ : ∃ lo hi, f_X11_least (nI j) Y = some lo ∧ f_X11_most (nI j) Y = some hi ∧ sSETTING_LOW j = lo ∧ sSETTING_HIGH j = hi := by
      have hc : j = 0 ∨ j = 1 ∨ j = 2 ∨ j = 3 ∨ j = 4 := by omega
      rcases hc with rfl | rfl | rfl | rfl | rfl
      · exact ⟨_, _, rfl, rfl, rfl, rfl⟩
      · exact ⟨_, _, rfl, rfl, rfl, rfl⟩
      · exact ⟨_, _, rfl, rfl, rfl, rfl⟩
      · exact ⟨_, _, rfl, rfl, rfl, rfl⟩
      · exact ⟨_, _, rfl, rfl, rfl, rfl⟩
    have ej : (78 : Int32) + nI j = nI (78 + j) := nI_add 78 j
    simp only [chk_p (inb_n (c := j) (N := 5) hj5 (by decide))]
    rw [if_neg h0, if_pos h5, ix_n hj, hin, ob1_s, if_neg one_0, e1, ob1_s, e2, ob1_s, e3, e4]
    rcases in_c x2 lo hi X Y with ⟨w1, w2, -⟩ | ⟨w1, w2, c1, c2⟩
    · rw [w1, w2]; exact ⟨_, _, _, rfl, rfl, h⟩
    rw [w1, w2, ob1_s, ob1_s, if_neg one_0, if_neg one_0]
    obtain ⟨X1, Y1, p1, p2, kx, ky, hr1⟩ := s_push h
    have hG := hr1.pg
    have hS := hG.2.2.1
    have eqv : gI X1 13 j = gI Y1 1 (78 + j) := by
      obtain ⟨⟨p0, p1, p2, p3, p4⟩, -⟩ := hS
      have hc : j = 0 ∨ j = 1 ∨ j = 2 ∨ j = 3 ∨ j = 4 := by omega
      rcases hc with rfl | rfl | rfl | rfl | rfl
      · exact p0.symm
      · exact p1.symm
      · exact p2.symm
      · exact p3.symm
      · exact p4.symm
    rw [p1, p2, ob1_s, ob1_s, ej, ix_n (n := 78 + j) (by omega)]
    simp only [lt1_s, chk_p (inb_n (c := 78 + j) (N := 159) (by omega) (by decide))]
    rw [eqv]
    refine ⟨_, wI X1 13 j x2, wI Y1 1 (78 + j) x2, rfl, rfl, Rel.of (PG_ps hG (fun o ho => wI_o ho) (fun k hk => wI_k (by omega)) ?_) (Rest_pages (X := X1) (Y := Y1) (fun k hk => ⟨wI_o (by omega), rfl⟩) (fun a ha => wI_o ha) (fun _ _ => rfl) hr1.rest)⟩
    have f1 : (wI X1 13 j x2).1 13 = upd (X1.1 13) j x2 := wI_same
    have f2 : (wI Y1 1 (78 + j) x2).1 1 = upd (Y1.1 1) (78 + j) x2 := wI_same
    rw [f1, f2]
    exact PS_set hS hj5 e3 e4 c1 c2
  · rw [if_neg h0, if_neg h5, show f_X11_in x1 0 4 Y = some 0 by
      unfold f_X11_in
      rw [if_neg h0, if_pos]
      rw [i_lt] at h5 ⊢
      have e1 : (5 : Int32).toInt = 5 := rfl
      have e2 : (4 : Int32).toInt = 4 := rfl
      omega]
    exact ⟨_, _, _, rfl, rfl, h⟩
/-! slots and undo -/
theorem pageJ {Y : Mm} {d s : Nat} {a b : Nat} (hds : d ≠ s) (v : Nat) : (wJ (wJ Y d a (Y.2 s 0)) d b (Y.2 s 1)).2 d v = if v = b then Y.2 s 1 else if v = a then Y.2 s 0 else Y.2 d v := by
  show (if d = d ∧ v = b then Y.2 s 1 else if d = d ∧ v = a then Y.2 s 0 else Y.2 d v) = _
  simp only [true_and]
theorem s_save (x1 : Int32) {X Y : Mm} (h : Rel X Y) : ∃ r X' Y', f_X10_save x1 X = some (r, X') ∧ f_X11_save x1 Y = some (r, Y') ∧ Rel X' Y' := by
  unfold f_X10_save f_X11_save
  by_cases h0 : x1 < 0
  · rw [if_pos h0, show f_X11_in x1 0 1 Y = some 0 from if_pos h0]
    exact ⟨_, _, _, rfl, rfl, h⟩
  by_cases h2 : x1 < 2
  · obtain ⟨c, hj, rfl⟩ := nI_of h0
    have hc : c < 2 := by
      rcases Nat.lt_or_ge c 2 with q | q
      · exact q
      · exact absurd h2 (show ¬ nI c < (2 : Int32) from nI_nlt q hj)
    have hin : f_X11_in (nI c) 0 1 Y = some 1 := by
      unfold f_X11_in
      rw [if_neg h0, if_neg (show ¬ (1 : Int32) < nI c from nI_nlt (a := 1) (by omega) (by decide))]
    have hG := h.pg
    have ha : APT (28 * (c + 6)) 0 := Or.inr (by omega)
    obtain ⟨X2, ex, hX⟩ := cp8 (M := X) ha (PG_bz h.1)
    obtain ⟨Y2, ey, hY, hYj⟩ := cpLoop (L := fun f x s => f_X11_save_L14 (nI c) f x s) Y 159 5 1 (159 * c) 0 (by decide) (Or.inl (by decide)) (fun f M => by rw [f_X11_save_L14, if_pos (show (159 : Int32) ≤ nI 159 by decide)]) (fun f i M hi hM => by
      rw [f_X11_save_L14, if_neg (show ¬ (159 : Int32) ≤ nI i from nI_ge hi (by decide)), show (159 : Int32) * nI c + nI i = nI (159 * c + i) from (congrArg (· + nI i) (nI_mul 159 c)).trans (nI_add _ _), chk_p (inb_n (by omega) (by decide)), chk_p (inb_n (by omega) (by decide)), ix_n (by omega), ix_n (by omega), lt1_s, lt1_s, nI_succ, Nat.zero_add])
    have m2 : (2 : Int32) * nI c = nI (2 * c) := nI_mul 2 c
    have m3 : nI (2 * c) + (1 : Int32) = nI (2 * c + 1) := nI_1 _
    have ecl : gI X2 0 6 = gI Y2 1 84 := by
      show X2.1 0 6 = Y2.1 1 84
      rw [hX.1, if_neg (by omega), hY, if_neg (by omega)]
      exact hG.2.2.2.2.2.1.1.symm
    simp only [chk_p (inb_n (c := c) (N := 2) hc (by decide))]
    rw [if_neg h0, if_pos h2, rid53 hc, ex, ob1_s, ix_n hj, hin, ob1_s, if_neg one_0, ey, ob1_s]
    simp only [lt1_s, m2, m3, chk_p (inb_n (c := 2 * c) (N := 4) (by omega) (by decide)), chk_p (inb_n (c := 2 * c + 1) (N := 4) (by omega) (by decide)), ix_n (n := 2 * c) (by omega), ix_n (n := 2 * c + 1) (by omega)]
    refine ⟨gI X2 0 6, wI X2 228 c 1, wI (wJ (wJ Y2 6 (2 * c) (Y2.2 2 0)) 6 (2 * c + 1) (Y2.2 2 1)) 7 c 1, rfl, ?_, ?_⟩
    · rw [ecl]; rfl
    · have kx : ∀ k, k < 168 ∨ 224 ≤ k → X2.1 k = X.1 k ∧ X2.2 k = X.2 k := fun k hk => ⟨funext fun j => by rw [hX.1, if_neg (by omega)], funext fun j => by rw [hX.2, if_neg (by omega)]⟩
      have ky : ∀ a, a ≠ 5 → Y2.1 a = Y.1 a := fun a ha => funext fun j => by rw [hY, if_neg (fun q => ha q.1)]
      obtain ⟨-, hH, hS, hT⟩ := id h
      refine Rel.of ?_ ⟨?_, ?_, ?_⟩
      · refine PG_congr (fun o j ho _ _ => ?_) ⟨?_, ?_⟩ (fun k _ => ?_) ⟨?_, ?_⟩ hG
        · rw [wI_o (by omega), (kx o (by omega)).1]
        · exact congrFun (kx 0 (by omega)).2 8
        · exact congrFun (kx 0 (by omega)).2 9
        · rw [wI_o (by decide)]; exact congrFun (ky 1 (by decide)) k
        · show (wJ (wJ Y2 6 (2 * c) (Y2.2 2 0)) 6 (2 * c + 1) (Y2.2 2 1)).2 2 0 = _
          rw [wJ_o (by decide), wJ_o (by decide), hYj]
        · show (wJ (wJ Y2 6 (2 * c) (Y2.2 2 0)) 6 (2 * c + 1) (Y2.2 2 1)).2 2 1 = _
          rw [wJ_o (by decide), wJ_o (by decide), hYj]
      · refine HX_keep (fun k h1 h2 => ⟨?_, (kx k (by omega)).2⟩) ?_ ?_ ⟨?_, ?_⟩ hH
        · rw [wI_o (by omega), (kx k (by omega)).1]
        · rw [wI_o (by decide), (kx 225 (by omega)).1]
        · rw [wI_o (by decide)]; exact congrFun (ky 0 (by decide)) 4
        · rw [wI_o (by decide)]; exact ky 3 (by decide)
        · show (wJ (wJ Y2 6 (2 * c) (Y2.2 2 0)) 6 (2 * c + 1) (Y2.2 2 1)).2 4 = _
          rw [wJ_o (by decide), wJ_o (by decide), hYj]
      · intro j hj
        obtain ⟨s1, s2⟩ := hS j hj
        have e228 : (wI X2 228 c 1).1 228 j = if j = c then 1 else X.1 228 j := by
          show (if 228 = 228 ∧ j = c then (1 : Int32) else X2.1 228 j) = _
          rw [(kx 228 (by omega)).1]
          simp only [true_and]
        have e7 : (wI (wJ (wJ Y2 6 (2 * c) (Y2.2 2 0)) 6 (2 * c + 1) (Y2.2 2 1)) 7 c 1).1 7 j = if j = c then 1 else Y.1 7 j := by
          show (if 7 = 7 ∧ j = c then (1 : Int32) else Y2.1 7 j) = _
          rw [ky 7 (by decide)]
          simp only [true_and]
        have eJ : ∀ v, (wI (wJ (wJ Y2 6 (2 * c) (Y2.2 2 0)) 6 (2 * c + 1) (Y2.2 2 1)) 7 c 1).2 6 v = if v = 2 * c + 1 then Y.2 2 1 else if v = 2 * c then Y.2 2 0 else Y.2 6 v := fun v => by
          show (wJ (wJ Y2 6 (2 * c) (Y2.2 2 0)) 6 (2 * c + 1) (Y2.2 2 1)).2 6 v = _
          rw [pageJ (by decide), hYj]
        rw [e228, e7]
        by_cases e : j = c
        · subst e
          rw [if_pos rfl, if_pos rfl]
          refine ⟨rfl, Or.inr ⟨rfl, PG_congr (fun o i ho hi hcov => ?_) ⟨?_, ?_⟩ (fun k hk => ?_) ⟨?_, ?_⟩ h.1⟩⟩
          · show (wI X2 228 j 1).1 (28 * (j + 6) + o) i = X.1 (0 + o) i
            rw [wI_o (by omega), hX.1, Nat.add_sub_cancel_left, if_pos ⟨by omega, by omega, hcov⟩]
          · show X2.2 (28 * (j + 6)) 8 = _
            rw [hX.2, if_pos ⟨rfl, rfl⟩]
          · show X2.2 (28 * (j + 6)) 9 = _
            rw [hX.2, if_pos ⟨rfl, rfl⟩]
          · show (wI _ 7 j 1).1 5 (159 * j + k) = _
            rw [wI_o (by decide)]
            show Y2.1 5 (159 * j + k) = _
            rw [hY, if_pos ⟨rfl, by omega, by omega⟩, Nat.add_sub_cancel_left, Nat.zero_add]
          · rw [eJ, if_neg (by omega), if_pos (by omega)]
          · rw [eJ, if_pos rfl]
        · rw [if_neg e, if_neg e]
          refine ⟨s1, ?_⟩
          rcases s2 with q | ⟨q, hg⟩
          · exact Or.inl q
          · refine Or.inr ⟨q, PG_congr (fun o i ho hi hcov => ?_) ⟨?_, ?_⟩ (fun k hk => ?_) ⟨?_, ?_⟩ hg⟩
            · show (wI X2 228 c 1).1 (28 * (j + 6) + o) i = X.1 (28 * (j + 6) + o) i
              rw [wI_o (by omega), hX.1, if_neg (by omega)]
            · show X2.2 (28 * (j + 6)) 8 = _
              rw [hX.2, if_neg (by omega)]
            · show X2.2 (28 * (j + 6)) 9 = _
              rw [hX.2, if_neg (by omega)]
            · show (wI _ 7 c 1).1 5 (159 * j + k) = _
              rw [wI_o (by decide)]
              show Y2.1 5 (159 * j + k) = _
              rw [hY, if_neg (by omega)]
            · rw [eJ, if_neg (by omega), if_neg (by omega)]
            · rw [eJ, if_neg (by omega), if_neg (by omega)]
      · refine TX_keep ⟨?_, ?_⟩ ⟨?_, ?_⟩ hT
        · rw [wI_o (by decide), (kx 230 (by omega)).1]
        · rw [wI_o (by decide), (kx 231 (by omega)).1]
        · rw [wI_o (by decide)]; exact congrFun (ky 0 (by decide)) 9
        · rw [wI_o (by decide)]; exact ky 8 (by decide)
  · rw [if_neg h0, if_neg h2, show f_X11_in x1 0 1 Y = some 0 by
      unfold f_X11_in
      rw [if_neg h0, if_pos]
      rw [i_lt] at h2 ⊢
      have e1 : (2 : Int32).toInt = 2 := rfl
      have e2 : (1 : Int32).toInt = 1 := rfl
      omega]
    exact ⟨_, _, _, rfl, rfl, h⟩

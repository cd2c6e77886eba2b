/-! JUDGING, 5: the reference's outcomes -/
theorem y_size {x : Int32} {M : Mm} : f_X11_size x M = some (jabs x) := by
  unfold f_X11_size jabs
  by_cases c : 0 ≤ x
  · rw [if_pos c, if_pos c]
  · rw [if_neg c, if_neg c, neg_0]
theorem late_iff {X Y : Mm} {n i w : Nat} (h : Lk X Y n) (hw : w < 2) (hi : i < n) (h0 : ¬ X.1 (3 + 2 * i) 0 = 0) : (Int32.toInt64 (tm X w i) < Int32.toInt64 (X.1 (2 + 2 * i) 4 + 1000)) ↔ tm X w i - X.1 (2 + 2 * i) 4 < 1000 := by
  have hL := h.1 i hi
  obtain ⟨t1, t2, t3⟩ := tm_val h hw hi (told_ok hL h0 hw).1
  have b := shf_b h hw hi
  have d0 := hL.1.2.2.2.1
  have d1 := hL.1.2.2.2.2
  rw [i_le] at d0 d1
  have e4 : (5000 : Int32).toInt = 5000 := rfl
  have e5 : (0 : Int32).toInt = 0 := rfl
  have e6 : (1000 : Int32).toInt = 1000 := rfl
  rw [j_lt, Int32.toInt_toInt64, Int32.toInt_toInt64, fb_addI (by omega) (by omega), i_lt, fb_subI (by omega) (by omega)]
  omega
theorem y_off {X M : Mm} {n i : Nat} {sk : Int32} (h : Lk X M n) (hn : n ≤ 4) (hi : i < n) (h0 : ¬ X.1 (3 + 2 * i) 0 = 0) (s0 : M.1 10 (2 * i) = shf X 0 i) (s1 : M.1 10 (2 * i + 1) = shf X 1 i) :
    f_X11_isOff (nI i) sk M = some (if sk < skp X i then 1 else if tm X 0 i - X.1 (2 + 2 * i) 4 < 1000 then 1 else if tm X 1 i - X.1 (2 + 2 * i) 4 < 1000 then 1 else 0) := by
  have i4 : i < 4 := by omega
  have e0 : (2 : Int32) * nI i = nI (2 * i) := nI_mul 2 i
  have e1 : nI (2 * i) + (1 : Int32) = nI (2 * i + 1) := nI_1 _
  have b4 : M.1 1 (16 * i + 4) = X.1 (2 + 2 * i) 4 := (h.1 i hi).2.1.2.2.2.2
  unfold f_X11_isOff
  rw [e0, e1, chk_p (inb_n (c := 2 * i) (by omega) (by decide)), ix_n (n := 2 * i) (by omega), y_size, ob1_s, ix_n (n := 2 * i + 1) (by omega), chk_p (inb_n (c := 2 * i + 1) (by omega) (by decide)), y_size, ob1_s, show gI M 10 (2 * i) = shf X 0 i from s0, show gI M 10 (2 * i + 1) = shf X 1 i from s1, yof4 i4, show f_X11_timeOf (nI i) (0 : Int32) M = some (Int32.toInt64 (tm X 0 i)) from y_timeOf h hn (by decide) hi h0 s0, show f_X11_timeOf (nI i) (1 : Int32) M = some (Int32.toInt64 (tm X 1 i)) from y_timeOf h hn (by decide) hi h0 s1]
  simp only [ob1_s, lt1_s, b4]
  have tail : (if Int32.toInt64 (tm X 0 i) < Int32.toInt64 (X.1 (2 + 2 * i) 4 + 1000) then some (1 : Int32) else (if Int32.toInt64 (X.1 (2 + 2 * i) 4 + 1000) ≤ Int32.toInt64 (tm X 1 i) then some (0 : Int32) else some 1)) = some (if tm X 0 i - X.1 (2 + 2 * i) 4 < 1000 then 1 else if tm X 1 i - X.1 (2 + 2 * i) 4 < 1000 then 1 else 0) := by
    have l0 := late_iff h (w := 0) (by decide) hi h0
    have l1 := late_iff h (w := 1) (by decide) hi h0
    by_cases c : tm X 0 i - X.1 (2 + 2 * i) 4 < 1000
    · rw [if_pos c, if_pos (l0.mpr c)]
    · rw [if_neg c, if_neg (fun q => c (l0.mp q))]
      by_cases d : tm X 1 i - X.1 (2 + 2 * i) 4 < 1000
      · have := l1.mpr d
        rw [if_pos d, if_neg (fun q => by rw [j_lt] at this; rw [j_le] at q; omega)]
      · have : ¬ _ := fun q => d (l1.mp q)
        rw [if_neg d, if_pos (by rw [j_lt] at this; rw [j_le]; omega)]
  have sl : (sk < skp X i) ↔ (sk < jabs (shf X 0 i) ∨ sk < jabs (shf X 1 i)) := jmax_lt
  by_cases c0 : sk < jabs (shf X 0 i)
  · rw [if_pos c0, ob1_s, if_neg one_0, if_pos (sl.mpr (Or.inl c0))]
  · rw [if_neg c0]
    by_cases c1 : sk < jabs (shf X 1 i)
    · have c1' : ¬ jabs (shf X 1 i) ≤ sk := fun q => by rw [i_lt] at c1; rw [i_le] at q; omega
      rw [if_neg c1', ob1_s, if_neg one_0, if_pos (sl.mpr (Or.inr c1))]
    · have c2 : ¬ sk < skp X i := fun q => (sl.mp q).elim c0 c1
      rw [if_pos (i_nlt c1), ob1_s, if_pos rfl, tail, if_neg c2]
/-- the reference decides -/
theorem y_dec {X M : Mm} {n : Nat} {sk : Int32} (h : Lk X M n) (hn : n ≤ 4) (hk : sk ≤ 5) (hO : ∀ i, i < n → M.1 9 i = oc0 X i) (s0 : ∀ i, i < n → M.1 10 (2 * i) = shf X 0 i ∧ M.1 10 (2 * i + 1) = shf X 1 i) (z16 : M.1 0 16 = 0) (z17 : M.1 0 17 = 0) :
    ∃ N, f_X11_worksOut_L36 sk 1000 (0 : Int32) M = some N ∧ (∀ i, i < n → N.1 9 i = outc X sk i ∧ N.1 13 i = (if outc X sk i < 3 then 0 else 1) ∧ (¬ outc X sk i < 3 → N.2 12 i = Int32.toInt64 (vF X i))) ∧ N.1 0 16 = acb X sk n ∧ N.1 0 17 = cob X sk n ∧ (∀ j, j ≠ 16 → j ≠ 17 → N.1 0 j = M.1 0 j) ∧ (∀ k, k ≠ 0 → k ≠ 9 → k ≠ 13 → N.1 k = M.1 k) ∧ (∀ k, k ≠ 12 → N.2 k = M.2 k) := by
  refine (fun z => z) (lpUp (L := fun f x s => f_X11_worksOut_L36 sk f x s) n (fun i N => (∀ j, j < n → N.1 9 j = if j < i then outc X sk j else oc0 X j) ∧ (∀ j, j < i → N.1 13 j = (if outc X sk j < 3 then 0 else 1) ∧ (¬ outc X sk j < 3 → N.2 12 j = Int32.toInt64 (vF X j))) ∧ N.1 0 16 = acb X sk i ∧ N.1 0 17 = cob X sk i ∧ (∀ j, j ≠ 16 → j ≠ 17 → N.1 0 j = M.1 0 j) ∧ (∀ k, k ≠ 0 → k ≠ 9 → k ≠ 13 → N.1 k = M.1 k) ∧ (∀ k, k ≠ 12 → N.2 k = M.2 k)) (fun N => (∀ i, i < n → N.1 9 i = outc X sk i ∧ N.1 13 i = (if outc X sk i < 3 then 0 else 1) ∧ (¬ outc X sk i < 3 → N.2 12 i = Int32.toInt64 (vF X i))) ∧ N.1 0 16 = acb X sk n ∧ N.1 0 17 = cob X sk n ∧ (∀ j, j ≠ 16 → j ≠ 17 → N.1 0 j = M.1 0 j) ∧ (∀ k, k ≠ 0 → k ≠ 9 → k ≠ 13 → N.1 k = M.1 k) ∧ (∀ k, k ≠ 12 → N.2 k = M.2 k)) (fun f N hN => ⟨N, ?_, fun j hj => ⟨by rw [hN.1 j hj, if_pos hj], hN.2.1 j hj⟩, hN.2.2⟩) (fun f i N hi hN => ?_) (by omega) ⟨fun j hj => by rw [if_neg (by omega)]; exact hO j hj, fun j hj => absurd hj (by omega), z16, z17, fun _ _ _ => rfl, fun _ _ _ _ => rfl, fun _ _ => rfl⟩)
  · rw [f_X11_worksOut_L36, if_pos (by rw [show gI N 1 64 = nI n from (congrFun (hN.2.2.2.2.2.1 1 (by decide) (by decide) (by decide)) 64).trans h.2.1]; exact nI_le (Nat.le_refl _) (by omega))]
  obtain ⟨q1, q2, q3, q4, q5, q6, q7⟩ := hN
  have i4 : i < 4 := by omega
  have hLN := h.same (Y' := N) (q6 1 (by decide) (by decide) (by decide))
  have e9 : N.1 9 i = oc0 X i := by rw [q1 i hi, if_neg (by omega)]
  have e10 : N.1 10 = M.1 10 := q6 10 (by decide) (by decide) (by decide)
  have c2i : (2 : Int32) * nI i = nI (2 * i) := nI_mul 2 i
  have c2j : nI (2 * i) + (1 : Int32) = nI (2 * i + 1) := nI_1 _
  have fin : ∀ N2 : Mm, N2.1 9 i = outc X sk i → (∀ j, j ≠ i → N2.1 9 j = N.1 9 j) → N2.1 13 i = (if outc X sk i < 3 then 0 else 1) → (∀ j, j ≠ i → N2.1 13 j = N.1 13 j ∧ N2.2 12 j = N.2 12 j) → (¬ outc X sk i < 3 → N2.2 12 i = Int32.toInt64 (vF X i)) → N2.1 0 16 = acb X sk (i + 1) → N2.1 0 17 = cob X sk (i + 1) → (∀ j, j ≠ 16 → j ≠ 17 → N2.1 0 j = N.1 0 j) → (∀ k, k ≠ 0 → k ≠ 9 → k ≠ 13 → N2.1 k = N.1 k) → (∀ k, k ≠ 12 → N2.2 k = N.2 k) → ((∀ j, j < n → N2.1 9 j = if j < i + 1 then outc X sk j else oc0 X j) ∧ (∀ j, j < i + 1 → N2.1 13 j = (if outc X sk j < 3 then 0 else 1) ∧ (¬ outc X sk j < 3 → N2.2 12 j = Int32.toInt64 (vF X j))) ∧ N2.1 0 16 = acb X sk (i + 1) ∧ N2.1 0 17 = cob X sk (i + 1) ∧ (∀ j, j ≠ 16 → j ≠ 17 → N2.1 0 j = M.1 0 j) ∧ (∀ k, k ≠ 0 → k ≠ 9 → k ≠ 13 → N2.1 k = M.1 k) ∧ (∀ k, k ≠ 12 → N2.2 k = M.2 k)) := by
    intro N2 a1 a2 a3 a4 a5 a6 a7 a8 a9 a10
    refine ⟨fun j hj => ?_, fun j hj => ?_, a6, a7, fun j j1 j2 => (a8 j j1 j2).trans (q5 j j1 j2), fun k k1 k2 k3 => (a9 k k1 k2 k3).trans (q6 k k1 k2 k3), fun k hk' => (a10 k hk').trans (q7 k hk')⟩
    · by_cases c : j = i
      · subst c; rw [if_pos (by omega)]; exact a1
      · rw [a2 j c, q1 j hj]
        by_cases d : j < i
        · rw [if_pos d, if_pos (by omega)]
        · rw [if_neg d, if_neg (by omega)]
    · rcases Nat.eq_or_lt_of_le (show j ≤ i by omega) with e | e
      · subst e; exact ⟨a3, a5⟩
      · rw [(a4 j (by omega)).1, (a4 j (by omega)).2]; exact q2 j e
  have i3 : ∀ v : Int32, v < 3 → ¬ v = 3 := fun v hv q => by rw [q] at hv; revert hv; decide
  have A9 : gI (wI N 13 i 0) 9 i = oc0 X i := (congrFun (wI_o (by decide)) i).trans e9
  rw [f_X11_worksOut_L36, if_neg (by rw [show gI N 1 64 = nI n from hLN.2.1]; exact nI_ge hi (by omega))]
  simp only [chk_p (inb_n (c := i) (N := 4) i4 (by decide)), ix_n (n := i) (by omega), lt1_s, c2i, c2j, chk_p (inb_n (c := 2 * i) (N := 8) (by omega) (by decide)), chk_p (inb_n (c := 2 * i + 1) (N := 8) (by omega) (by decide)), ix_n (n := 2 * i) (by omega), ix_n (n := 2 * i + 1) (by omega), A9]
  by_cases g4 : oc0 X i = 4
  case neg =>
    have hout : outc X sk i = oc0 X i ∧ outc X sk i < 3 := by
      unfold oc0 at g4 ⊢
      unfold outc
      by_cases c0 : X.1 (3 + 2 * i) 0 = 0
      · rw [if_pos c0, if_pos c0]; exact ⟨rfl, by decide⟩
      · rw [if_neg c0] at g4 ⊢
        rw [if_neg c0]
        by_cases c1 : X.1 13 0 ≤ X.1 (3 + 2 * i) 3
        · rw [if_pos c1] at g4; exact absurd rfl g4
        · rw [if_neg c1, if_neg c1]; exact ⟨rfl, by decide⟩
    rw [if_neg g4, ob1_s, A9, if_pos (by rw [← hout.1]; exact hout.2), ob1_s, nI_1]
    refine Or.inr ⟨wI N 13 i 0, fin _ ?_ (fun j hj => ?_) ?_ (fun j hj => ⟨wI_k hj, rfl⟩) (fun q => absurd hout.2 q) ?_ ?_ (fun j _ _ => ?_) (fun k k1 k2 k3 => wI_o k3) (fun _ _ => rfl), rfl⟩
    · rw [wI_o (by decide), e9, hout.1]
    · rw [wI_o (by decide)]
    · rw [wI_e, if_pos hout.2]
    · rw [wI_o (by decide), q3]; exact (if_pos hout.2).symm
    · rw [wI_o (by decide), q4]; exact (if_neg (i3 _ hout.2)).symm
    · rw [wI_o (by decide)]
  have g4' : ¬ X.1 (3 + 2 * i) 0 = 0 ∧ X.1 13 0 ≤ X.1 (3 + 2 * i) 3 := by
    unfold oc0 at g4
    by_cases c0 : X.1 (3 + 2 * i) 0 = 0
    · rw [if_pos c0] at g4; exact absurd g4 (by decide)
    · rw [if_neg c0] at g4
      by_cases c1 : X.1 13 0 ≤ X.1 (3 + 2 * i) 3
      · exact ⟨c0, c1⟩
      · rw [if_neg c1] at g4; exact absurd g4 (by decide)
  have o1 : outc X sk i = if sk < skp X i then 2 else if tm X 0 i - X.1 (2 + 2 * i) 4 < 1000 then 2 else if tm X 1 i - X.1 (2 + 2 * i) 4 < 1000 then 2 else if skp X i = 0 then 4 else 3 := (if_neg g4'.1).trans (if_pos g4'.2)
  have hL1 := hLN.same (Y' := wI N 13 i 0) (wI_o (by decide))
  have r0 : (wI N 13 i 0).1 10 (2 * i) = shf X 0 i := by rw [wI_o (by decide), e10]; exact (s0 i hi).1
  have r1 : (wI N 13 i 0).1 10 (2 * i + 1) = shf X 1 i := by rw [wI_o (by decide), e10]; exact (s0 i hi).2
  have em : (if gI (wI N 13 i 0) 10 (2 * i) = (0 : Int32) then (if gI (wI N 13 i 0) 10 (2 * i + 1) = (0 : Int32) then some (0 : Int32) else some 1) else some 1) = some (if skp X i = 0 then 0 else 1) := by
    rw [show gI (wI N 13 i 0) 10 (2 * i) = shf X 0 i from r0, show gI (wI N 13 i 0) 10 (2 * i + 1) = shf X 1 i from r1]
    have z := skp_0 hLN hi
    by_cases c : shf X 0 i = 0
    · rw [if_pos c]
      by_cases d : shf X 1 i = 0
      · rw [if_pos d, if_pos (z.mpr ⟨c, d⟩)]
      · rw [if_neg d, if_neg (fun q => d (z.mp q).2)]
    · rw [if_neg c, if_neg (fun q => c (z.mp q).1)]
  rw [if_pos g4, em, ob1_s, y_off hL1 hn hi g4'.1 r0 r1, ob1_s]
  have ey : (if (if sk < skp X i then (1 : Int32) else if tm X 0 i - X.1 (2 + 2 * i) 4 < 1000 then 1 else if tm X 1 i - X.1 (2 + 2 * i) 4 < 1000 then 1 else 0) = (0 : Int32) then (if (if skp X i = 0 then (0 : Int32) else 1) = (0 : Int32) then some (4 : Int32) else some 3) else some 2) = some (outc X sk i) := by
    rw [o1]
    by_cases c2 : sk < skp X i
    · rw [if_pos c2, if_pos c2, if_neg one_0]
    · rw [if_neg c2, if_neg c2]
      by_cases c3 : tm X 0 i - X.1 (2 + 2 * i) 4 < 1000
      · rw [if_pos c3, if_pos c3, if_neg one_0]
      · rw [if_neg c3, if_neg c3]
        by_cases c4 : tm X 1 i - X.1 (2 + 2 * i) 4 < 1000
        · rw [if_pos c4, if_pos c4, if_neg one_0]
        · rw [if_neg c4, if_neg c4, if_pos rfl]
          by_cases c5 : skp X i = 0
          · rw [if_pos c5, if_pos c5, if_pos rfl]
          · rw [if_neg c5, if_neg c5, if_neg one_0]
  rw [ey, ob1_s]
  have B9 : gI (wI (wI N 13 i 0) 9 i (outc X sk i)) 9 i = outc X sk i := wI_e
  have B16 : gI (wI (wI N 13 i 0) 9 i (outc X sk i)) 0 16 = acb X sk i := (congrFun ((wI_o (by decide)).trans (wI_o (by decide))) 16).trans q3
  have C9 : ∀ v, gI (wI (wI (wI N 13 i 0) 9 i (outc X sk i)) 0 16 v) 9 i = outc X sk i := fun v => (congrFun (wI_o (by decide)) i).trans wI_e
  have C17 : ∀ v, gI (wI (wI (wI N 13 i 0) 9 i (outc X sk i)) 0 16 v) 0 17 = cob X sk i := fun v => (wI_k (by decide)).trans ((congrFun ((wI_o (by decide)).trans (wI_o (by decide))) 17).trans q4)
  have D9 : ∀ v u, gI (wI (wI (wI (wI N 13 i 0) 9 i (outc X sk i)) 0 16 v) 0 17 u) 9 i = outc X sk i := fun v u => (congrFun ((wI_o (by decide)).trans (wI_o (by decide))) i).trans wI_e
  have a3 : acb X sk i ||| (if outc X sk i < 3 then (0 : Int32) else (1 : Int32) <<< (nI i &&& 31)) = acb X sk (i + 1) := by
    show _ = if outc X sk i < 3 then acb X sk i else acb X sk i ||| ((1 : Int32) <<< (nI i &&& 31))
    by_cases c : outc X sk i < 3
    · rw [if_pos c, if_pos c, Int32.or_zero]
    · rw [if_neg c, if_neg c]
  have a4 : cob X sk i ||| (if outc X sk i = 3 then (1 : Int32) <<< (nI i &&& 31) else (0 : Int32)) = cob X sk (i + 1) := by
    show _ = if outc X sk i = 3 then cob X sk i ||| ((1 : Int32) <<< (nI i &&& 31)) else cob X sk i
    by_cases c : outc X sk i = 3
    · rw [if_pos c, if_pos c]
    · rw [if_neg c, if_neg c, Int32.or_zero]
  rw [B9, ob1_if, B16, a3, C9, ob1_if, C17, a4, ob1_s, D9]
  by_cases c3 : outc X sk i < 3
  · rw [if_pos c3, ob1_s, nI_1]
    refine Or.inr ⟨wI (wI (wI (wI N 13 i 0) 9 i (outc X sk i)) 0 16 (acb X sk (i + 1))) 0 17 (cob X sk (i + 1)), fin _ ?_ (fun j hj => ?_) ?_ (fun j hj => ⟨?_, rfl⟩) (fun q => absurd c3 q) ?_ ?_ (fun j j1 j2 => ?_) (fun k k1 k2 k3 => ?_) (fun _ _ => rfl), rfl⟩
    · rw [wI_o (by decide), wI_o (by decide), wI_e]
    · rw [wI_o (by decide), wI_o (by decide), wI_k hj, wI_o (by decide)]
    · rw [wI_o (by decide), wI_o (by decide), wI_o (by decide), wI_e, if_pos c3]
    · rw [wI_o (by decide), wI_o (by decide), wI_o (by decide), wI_k hj]
    · rw [wI_k (by decide), wI_e]
    · exact wI_e
    · rw [wI_k j2, wI_k j1, wI_o (by decide), wI_o (by decide)]
    · rw [wI_o k1, wI_o k1, wI_o k2, wI_o k3]
  · have hLe := hL1.same (Y' := wI (wI (wI (wI N 13 i 0) 9 i (outc X sk i)) 0 16 (acb X sk (i + 1))) 0 17 (cob X sk (i + 1))) ((wI_o (by decide)).trans ((wI_o (by decide)).trans (wI_o (by decide))))
    have t0 := y_timeOf hLe hn (w := 0) (by decide) hi g4'.1 (by rw [wI_o (by decide), wI_o (by decide), wI_o (by decide)]; exact r0)
    have t1 := y_timeOf hLe hn (w := 1) (by decide) hi g4'.1 (by rw [wI_o (by decide), wI_o (by decide), wI_o (by decide)]; exact r1)
    have i32 : ∀ x : Int32, Int64.toInt32 (Int32.toInt64 x) = x := fun x => by rw [i_eq, Int64.toInt_toInt32, Int32.toInt_toInt64, fb_bmod (fb_rng _).1 (fb_rng _).2]
    have hv := (vF_s hLe hn hi hk c3).2.1
    rw [if_neg c3, show f_X11_timeOf (nI i) (0 : Int32) _ = some (Int32.toInt64 (tm X 0 i)) from t0, ob1_s, show f_X11_timeOf (nI i) (1 : Int32) _ = some (Int32.toInt64 (tm X 1 i)) from t1, ob1_s, i32, i32, hv, ob1_s, ob1_s, nI_1]
    refine Or.inr ⟨_, fin _ ?_ (fun j hj => ?_) ?_ (fun j hj => ⟨?_, ?_⟩) (fun _ => ?_) ?_ ?_ (fun j j1 j2 => ?_) (fun k k1 k2 k3 => ?_) (fun k hk' => ?_), rfl⟩
    · rw [wI_o (by decide), wJ_1, wI_o (by decide), wI_o (by decide), wI_e]
    · rw [wI_o (by decide), wJ_1, wI_o (by decide), wI_o (by decide), wI_k hj, wI_o (by decide)]
    · rw [wI_e, if_neg c3]
    · rw [wI_k hj, wJ_1, wI_o (by decide), wI_o (by decide), wI_o (by decide), wI_k hj]
    · show (if 12 = 12 ∧ j = i then _ else N.2 12 j) = _
      rw [if_neg (fun q => hj q.2)]
    · show (if 12 = 12 ∧ i = i then Int32.toInt64 (vF X i) else _) = _
      rw [if_pos ⟨rfl, rfl⟩]
    · rw [wI_o (by decide), wJ_1, wI_k (by decide), wI_e]
    · rw [wI_o (by decide), wJ_1, wI_e]
    · rw [wI_o (by decide), wJ_1, wI_k j2, wI_k j1, wI_o (by decide), wI_o (by decide)]
    · rw [wI_o k3, wJ_1, wI_o k1, wI_o k1, wI_o k2, wI_o k3]
    · show (wJ _ 12 i _).2 k = _
      rw [wJ_o hk']
      rfl

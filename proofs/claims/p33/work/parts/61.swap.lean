/-! SWAPPING, ADDING A PATH, TOTALS -/
def sw6 (f : Nat → Int32) : Nat → Int32 := fun j => if j = 6 then f 7 else if j = 7 then f 6 else f j
def sw1 (f : Nat → Int32) : Nat → Int32 := fun j => if j = 1 then f 2 else if j = 2 then f 1 else f j
def swP (p : Nat → Int32) : Nat → Int32 := fun k => if k = 5 then (if p 5 = -2000000005 then p 5 else p 6) else if k = 6 then (if p 5 = -2000000005 then p 6 else p 5) else if k = 13 then (if p 13 = -2000000005 then p 13 else p 14) else if k = 14 then (if p 13 = -2000000005 then p 14 else p 13) else p k
theorem PL_swap {A S p : Nat → Int32} (h : PL A S p) : PL (sw6 A) (sw1 S) (swP p) := by
  have hr := h.ref
  have hs := h.sho
  obtain ⟨a1, b1, c1, c2, c3, c4⟩ := h
  have e : ∀ k, k ≠ 5 → k ≠ 6 → k ≠ 13 → k ≠ 14 → swP p k = p k := fun k h5 h6 h13 h14 => by
    unfold swP
    rw [if_neg h5, if_neg h6, if_neg h13, if_neg h14]
  refine ⟨a1, ⟨?_, ?_, ?_, ?_, ?_⟩, ?_, ?_, ⟨?_, ?_, ?_, ?_, ?_⟩, ?_⟩
  · rw [e 0 (by decide) (by decide) (by decide) (by decide)]; exact b1.1
  · rw [e 1 (by decide) (by decide) (by decide) (by decide)]; exact b1.2.1
  · rw [e 2 (by decide) (by decide) (by decide) (by decide)]; exact b1.2.2.1
  · rw [e 3 (by decide) (by decide) (by decide) (by decide)]; exact b1.2.2.2.1
  · rw [e 4 (by decide) (by decide) (by decide) (by decide)]; exact b1.2.2.2.2
  · have e5 : swP p 5 = if p 5 = -2000000005 then p 5 else p 6 := rfl
    have e6 : swP p 6 = if p 5 = -2000000005 then p 6 else p 5 := rfl
    rw [e5, e6]
    rcases c1 with ⟨q1, q2, q3⟩ | ⟨q1, q2, q3, q4, q5⟩
    · rw [if_pos q2, if_pos q2]
      exact Or.inl ⟨q1, q2, q3⟩
    · have q : ¬ p 5 = -2000000005 := by
        rcases hr with ⟨z, -⟩ | ⟨-, z, -⟩
        · exact absurd (q1.symm.trans z) one_0
        · exact z
      rw [if_neg q, if_neg q]
      exact Or.inr ⟨q1, q3, q2, q5, q4⟩
  · rw [e 7 (by decide) (by decide) (by decide) (by decide)]; exact c2
  · rw [e 8 (by decide) (by decide) (by decide) (by decide)]; exact c3.1
  · rw [e 9 (by decide) (by decide) (by decide) (by decide)]; exact c3.2.1
  · rw [e 10 (by decide) (by decide) (by decide) (by decide)]; exact c3.2.2.1
  · rw [e 11 (by decide) (by decide) (by decide) (by decide)]; exact c3.2.2.2.1
  · rw [e 12 (by decide) (by decide) (by decide) (by decide)]; exact c3.2.2.2.2
  · have e5 : swP p 13 = if p 13 = -2000000005 then p 13 else p 14 := rfl
    have e6 : swP p 14 = if p 13 = -2000000005 then p 14 else p 13 := rfl
    rw [e5, e6, e 15 (by decide) (by decide) (by decide) (by decide)]
    rcases c4 with ⟨q1, q2⟩ | ⟨q1, q2, q3, q4, q5, q6⟩
    · rw [if_pos q2, if_pos q2]
      exact Or.inl ⟨q1, q2⟩
    · have q : ¬ p 13 = -2000000005 := by
        rcases hs with ⟨z, -⟩ | ⟨-, -, z, -⟩
        · exact absurd (q1.symm.trans z) one_0
        · exact z
      rw [if_neg q, if_neg q]
      exact Or.inr ⟨q1, q3, q2, q4, q6, q5⟩
theorem x_exch {X : Mm} : ∃ X', f_X8_exchangeTimes X = some X' ∧ (∀ q, q < 4 → X'.1 (2 + 2 * q) = sw6 (X.1 (2 + 2 * q)) ∧ X'.1 (3 + 2 * q) = sw1 (X.1 (3 + 2 * q))) ∧ (∀ k, k < 2 ∨ 10 ≤ k → X'.1 k = X.1 k) ∧ X'.2 = X.2 := by
  refine lpUp (L := f_X8_exchangeTimes_L10) 4 (fun i M => (∀ q, q < 4 → (M.1 (2 + 2 * q) = if q < i then sw6 (X.1 (2 + 2 * q)) else X.1 (2 + 2 * q)) ∧ (M.1 (3 + 2 * q) = if q < i then sw1 (X.1 (3 + 2 * q)) else X.1 (3 + 2 * q))) ∧ (∀ k, k < 2 ∨ 10 ≤ k → M.1 k = X.1 k) ∧ M.2 = X.2) _ (fun f M h => ⟨M, by rw [f_X8_exchangeTimes_L10, if_pos (show (4 : Int32) ≤ nI 4 by decide)], fun q hq => ⟨by rw [(h.1 q hq).1, if_pos hq], by rw [(h.1 q hq).2, if_pos hq]⟩, h.2⟩) (fun f i M hi h => ?_) (by decide) ⟨fun q hq => ⟨by rw [if_neg (by omega)], by rw [if_neg (by omega)]⟩, fun _ _ => rfl, rfl⟩
  refine Or.inr ⟨wI (wI (wI (wI M (2 + 2 * i) 6 (gI M (2 + 2 * i) 7)) (2 + 2 * i) 7 (gI M (2 + 2 * i) 6)) (3 + 2 * i) 1 (gI M (3 + 2 * i) 2)) (3 + 2 * i) 2 (gI M (3 + 2 * i) 1), ⟨fun q hq => ⟨?_, ?_⟩, fun k hk => ?_, ?_⟩, ?_⟩
  · rw [wI_o (by omega), wI_o (by omega)]
    by_cases c : q = i
    · subst c
      rw [if_pos (by omega)]
      funext j
      have h1 := (h.1 q hq).1
      rw [if_neg (by omega)] at h1
      rw [← h1]
      show (if 2 + 2 * q = 2 + 2 * q ∧ j = 7 then M.1 (2 + 2 * q) 6 else if 2 + 2 * q = 2 + 2 * q ∧ j = 6 then M.1 (2 + 2 * q) 7 else M.1 (2 + 2 * q) j) = if j = 6 then M.1 (2 + 2 * q) 7 else if j = 7 then M.1 (2 + 2 * q) 6 else M.1 (2 + 2 * q) j
      simp only [true_and]
      by_cases c6 : j = 6
      · rw [if_neg (by omega), if_pos c6, if_pos c6]
      · rw [if_neg c6, if_neg c6]
    · rw [wI_o (by omega), wI_o (by omega), (h.1 q hq).1]
      by_cases c2 : q < i
      · rw [if_pos c2, if_pos (by omega)]
      · rw [if_neg c2, if_neg (by omega)]
  · by_cases c : q = i
    · subst c
      rw [if_pos (by omega)]
      funext j
      have h1 := (h.1 q hq).2
      rw [if_neg (by omega)] at h1
      rw [← h1]
      have eb : (wI (wI M (2 + 2 * q) 6 (gI M (2 + 2 * q) 7)) (2 + 2 * q) 7 (gI M (2 + 2 * q) 6)).1 (3 + 2 * q) j = M.1 (3 + 2 * q) j := by rw [wI_o (by omega), wI_o (by omega)]
      show (if 3 + 2 * q = 3 + 2 * q ∧ j = 2 then M.1 (3 + 2 * q) 1 else if 3 + 2 * q = 3 + 2 * q ∧ j = 1 then M.1 (3 + 2 * q) 2 else (wI (wI M (2 + 2 * q) 6 (gI M (2 + 2 * q) 7)) (2 + 2 * q) 7 (gI M (2 + 2 * q) 6)).1 (3 + 2 * q) j) = if j = 1 then M.1 (3 + 2 * q) 2 else if j = 2 then M.1 (3 + 2 * q) 1 else M.1 (3 + 2 * q) j
      rw [eb]
      simp only [true_and]
      by_cases c6 : j = 1
      · rw [if_neg (by omega), if_pos c6, if_pos c6]
      · rw [if_neg c6, if_neg c6]
    · rw [wI_o (by omega), wI_o (by omega), wI_o (by omega), wI_o (by omega), (h.1 q hq).2]
      by_cases c2 : q < i
      · rw [if_pos c2, if_pos (by omega)]
      · rw [if_neg c2, if_neg (by omega)]
  · rw [wI_o (by omega), wI_o (by omega), wI_o (by omega), wI_o (by omega), h.2.1 k hk]
  · exact h.2.2
  · rw [f_X8_exchangeTimes_L10, if_neg (show ¬ (4 : Int32) ≤ nI i from nI_ge hi (by decide)), chk_p (inb_n hi (by decide)), show rid 50 1 (ix (nI i)) = 2 + 2 * i from (rid50 (a := 0) hi).trans (Nat.zero_add _)]
    unfold f_X3_exchangeTimes f_X7_exchangeTimes
    simp only [lt1_s, ob1_s]
    have e3 : 2 + 2 * i + 1 = 3 + 2 * i := by omega
    have g1 : gI (wI (wI M (2 + 2 * i) 6 (gI M (2 + 2 * i) 7)) (2 + 2 * i) 7 (gI M (2 + 2 * i) 6)) (3 + 2 * i) 1 = gI M (3 + 2 * i) 1 := congrFun ((wI_o (by omega)).trans (wI_o (by omega))) 1
    have g2 : gI (wI (wI M (2 + 2 * i) 6 (gI M (2 + 2 * i) 7)) (2 + 2 * i) 7 (gI M (2 + 2 * i) 6)) (3 + 2 * i) 2 = gI M (3 + 2 * i) 2 := congrFun ((wI_o (by omega)).trans (wI_o (by omega))) 2
    rw [e3, g1, g2, nI_1]
theorem y_exch5 {M : Mm} {i : Nat} (hi : i < 4) : f_X11_exchanges (nI i) 5 M = some (wI (wI M 1 (16 * i + 5) (M.1 1 (16 * i + 6))) 1 (16 * i + 6) (M.1 1 (16 * i + 5))) := by
  unfold f_X11_exchanges
  rw [show (5 : Int32) + 1 = 6 from rfl, yof5 hi, ob1_s, yof6 hi, ob1_s, ylay5 hi, ob1_s, ylay6 hi, ob1_s]
theorem y_exch13 {M : Mm} {i : Nat} (hi : i < 4) : f_X11_exchanges (nI i) 13 M = some (wI (wI M 1 (16 * i + 13) (M.1 1 (16 * i + 14))) 1 (16 * i + 14) (M.1 1 (16 * i + 13))) := by
  unfold f_X11_exchanges
  rw [show (13 : Int32) + 1 = 14 from rfl, yof13 hi, ob1_s, yof14 hi, ob1_s, ylay13 hi, ob1_s, ylay14 hi, ob1_s]
theorem y_exch {Y : Mm} {n : Nat} (hn : n ≤ 4) (hy : Y.1 1 64 = nI n) : ∃ Y', f_X11_swaps_L18 1000 (0 : Int32) Y = some Y' ∧ (∀ q, q < 4 → ∀ k, k < 16 → Y'.1 1 (16 * q + k) = if q < n then swP (fun k => Y.1 1 (16 * q + k)) k else Y.1 1 (16 * q + k)) ∧ (∀ k, 64 ≤ k → Y'.1 1 k = Y.1 1 k) ∧ (∀ a, a ≠ 1 → Y'.1 a = Y.1 a) ∧ Y'.2 = Y.2 := by
  refine lpUp (L := f_X11_swaps_L18) n (fun i M => (∀ q, q < 4 → ∀ k, k < 16 → M.1 1 (16 * q + k) = if q < i then swP (fun k => Y.1 1 (16 * q + k)) k else Y.1 1 (16 * q + k)) ∧ (∀ k, 64 ≤ k → M.1 1 k = Y.1 1 k) ∧ (∀ a, a ≠ 1 → M.1 a = Y.1 a) ∧ M.2 = Y.2) _ (fun f M h => ⟨M, by rw [f_X11_swaps_L18, if_pos (by rw [show gI M 1 64 = nI n from (h.2.1 64 (by decide)).trans hy]; exact nI_le (Nat.le_refl _) (by omega))], h⟩) (fun f i M hi h => ?_) (by omega) ⟨fun q hq k hk => by rw [if_neg (by omega)], fun _ _ => rfl, fun _ _ => rfl, rfl⟩
  have i4 : i < 4 := by omega
  have row : ∀ k, k < 16 → M.1 1 (16 * i + k) = Y.1 1 (16 * i + k) := fun k hk => by rw [h.1 i i4 k hk, if_neg (by omega)]
  -- the two exchanges, as one change of the row
  obtain ⟨M2, e2, r2, o2⟩ : ∃ M2, (ob1 ((if M.1 1 (16 * i + 5) = (-2000000005 : Int32) then some M else (ob1 (f_X11_exchanges (nI i) (5 : Int32) M) fun M_7 => some M_7))) fun M_6 => some M_6) = some M2 ∧ (∀ k, k < 16 → M2.1 1 (16 * i + k) = if k = 5 then (if M.1 1 (16 * i + 5) = -2000000005 then M.1 1 (16 * i + 5) else M.1 1 (16 * i + 6)) else if k = 6 then (if M.1 1 (16 * i + 5) = -2000000005 then M.1 1 (16 * i + 6) else M.1 1 (16 * i + 5)) else M.1 1 (16 * i + k)) ∧ (∀ a k, (a ≠ 1 ∨ k < 16 * i ∨ 16 * i + 16 ≤ k) → M2.1 a k = M.1 a k) ∧ M2.2 = M.2 := by
    by_cases c : M.1 1 (16 * i + 5) = -2000000005
    · refine ⟨M, by rw [if_pos c]; rfl, fun k hk => ?_, fun _ _ _ => rfl, rfl⟩
      rw [if_pos c, if_pos c]
      by_cases c5 : k = 5
      · rw [if_pos c5, c5]
      · rw [if_neg c5]
        by_cases c6 : k = 6
        · rw [if_pos c6, c6]
        · rw [if_neg c6]
    · refine ⟨wI (wI M 1 (16 * i + 5) (M.1 1 (16 * i + 6))) 1 (16 * i + 6) (M.1 1 (16 * i + 5)), by rw [if_neg c, y_exch5 i4]; rfl, fun k hk => ?_, fun a k hak => ?_, rfl⟩
      · rw [if_neg c, if_neg c]
        show (if 1 = 1 ∧ 16 * i + k = 16 * i + 6 then M.1 1 (16 * i + 5) else if 1 = 1 ∧ 16 * i + k = 16 * i + 5 then M.1 1 (16 * i + 6) else M.1 1 (16 * i + k)) = _
        by_cases c5 : k = 5
        · rw [if_neg (by omega), if_pos (by omega), if_pos c5]
        · rw [if_neg c5]
          by_cases c6 : k = 6
          · rw [if_pos (by omega), if_pos c6]
          · rw [if_neg (by omega), if_neg (by omega), if_neg c6]
      · show (if a = 1 ∧ k = 16 * i + 6 then M.1 1 (16 * i + 5) else if a = 1 ∧ k = 16 * i + 5 then M.1 1 (16 * i + 6) else M.1 a k) = _
        rw [if_neg (by omega), if_neg (by omega)]
  obtain ⟨M3, e3, r3, o3⟩ : ∃ M3, (ob1 ((if M2.1 1 (16 * i + 13) = (-2000000005 : Int32) then some M2 else (ob1 (f_X11_exchanges (nI i) (13 : Int32) M2) fun M_10 => some M_10))) fun M_9 => some M_9) = some M3 ∧ (∀ k, k < 16 → M3.1 1 (16 * i + k) = if k = 13 then (if M2.1 1 (16 * i + 13) = -2000000005 then M2.1 1 (16 * i + 13) else M2.1 1 (16 * i + 14)) else if k = 14 then (if M2.1 1 (16 * i + 13) = -2000000005 then M2.1 1 (16 * i + 14) else M2.1 1 (16 * i + 13)) else M2.1 1 (16 * i + k)) ∧ (∀ a k, (a ≠ 1 ∨ k < 16 * i ∨ 16 * i + 16 ≤ k) → M3.1 a k = M2.1 a k) ∧ M3.2 = M2.2 := by
    by_cases c : M2.1 1 (16 * i + 13) = -2000000005
    · refine ⟨M2, by rw [if_pos c]; rfl, fun k hk => ?_, fun _ _ _ => rfl, rfl⟩
      rw [if_pos c, if_pos c]
      by_cases c5 : k = 13
      · rw [if_pos c5, c5]
      · rw [if_neg c5]
        by_cases c6 : k = 14
        · rw [if_pos c6, c6]
        · rw [if_neg c6]
    · refine ⟨wI (wI M2 1 (16 * i + 13) (M2.1 1 (16 * i + 14))) 1 (16 * i + 14) (M2.1 1 (16 * i + 13)), by rw [if_neg c, y_exch13 i4]; rfl, fun k hk => ?_, fun a k hak => ?_, rfl⟩
      · rw [if_neg c, if_neg c]
        show (if 1 = 1 ∧ 16 * i + k = 16 * i + 14 then M2.1 1 (16 * i + 13) else if 1 = 1 ∧ 16 * i + k = 16 * i + 13 then M2.1 1 (16 * i + 14) else M2.1 1 (16 * i + k)) = _
        by_cases c5 : k = 13
        · rw [if_neg (by omega), if_pos (by omega), if_pos c5]
        · rw [if_neg c5]
          by_cases c6 : k = 14
          · rw [if_pos (by omega), if_pos c6]
          · rw [if_neg (by omega), if_neg (by omega), if_neg c6]
      · show (if a = 1 ∧ k = 16 * i + 14 then M2.1 1 (16 * i + 13) else if a = 1 ∧ k = 16 * i + 13 then M2.1 1 (16 * i + 14) else M2.1 a k) = _
        rw [if_neg (by omega), if_neg (by omega)]
  refine Or.inr ⟨M3, ⟨fun q hq k hk => ?_, fun k hk => ?_, fun a ha => ?_, ?_⟩, ?_⟩
  · by_cases c : q = i
    · subst c
      rw [if_pos (show q < q + 1 by omega)]
      have m13 : M2.1 1 (16 * q + 13) = Y.1 1 (16 * q + 13) := by rw [r2 13 (by decide), if_neg (by decide), if_neg (by decide), row 13 (by decide)]
      have m14 : M2.1 1 (16 * q + 14) = Y.1 1 (16 * q + 14) := by rw [r2 14 (by decide), if_neg (by decide), if_neg (by decide), row 14 (by decide)]
      by_cases k5 : k = 5
      · subst k5
        rw [r3 5 (by decide), if_neg (by decide), if_neg (by decide), r2 5 (by decide), if_pos rfl, row 5 (by decide), row 6 (by decide)]
        rfl
      by_cases k6 : k = 6
      · subst k6
        rw [r3 6 (by decide), if_neg (by decide), if_neg (by decide), r2 6 (by decide), if_neg (by decide), if_pos rfl, row 5 (by decide), row 6 (by decide)]
        rfl
      by_cases k13 : k = 13
      · subst k13
        rw [r3 13 (by decide), if_pos rfl, m13, m14]
        rfl
      by_cases k14 : k = 14
      · subst k14
        rw [r3 14 (by decide), if_neg (by decide), if_pos rfl, m13, m14]
        rfl
      · rw [r3 k hk, if_neg k13, if_neg k14, r2 k hk, if_neg k5, if_neg k6, row k hk]
        unfold swP
        rw [if_neg k5, if_neg k6, if_neg k13, if_neg k14]
    · rw [o3.1 1 _ (by omega), o2.1 1 _ (by omega), h.1 q hq k hk]
      by_cases c2 : q < i
      · rw [if_pos c2, if_pos (by omega)]
      · rw [if_neg c2, if_neg (by omega)]
  · rw [o3.1 1 _ (by omega), o2.1 1 _ (by omega), h.2.1 k hk]
  · funext k
    rw [o3.1 a k (Or.inl ha), o2.1 a k (Or.inl ha), h.2.2.1 a ha]
  · rw [o3.2, o2.2, h.2.2.2]
  · have e2' : (if M.1 1 (16 * i + 5) = (-2000000005 : Int32) then some M else (ob1 (f_X11_exchanges (nI i) (5 : Int32) M) fun M_7 => some M_7)) = some M2 := by
      rw [← e2]
      generalize (if M.1 1 (16 * i + 5) = (-2000000005 : Int32) then some M else (ob1 (f_X11_exchanges (nI i) (5 : Int32) M) fun M_7 => some M_7)) = z
      cases z <;> rfl
    have e3' : (if M2.1 1 (16 * i + 13) = (-2000000005 : Int32) then some M2 else (ob1 (f_X11_exchanges (nI i) (13 : Int32) M2) fun M_10 => some M_10)) = some M3 := by
      rw [← e3]
      generalize (if M2.1 1 (16 * i + 13) = (-2000000005 : Int32) then some M2 else (ob1 (f_X11_exchanges (nI i) (13 : Int32) M2) fun M_10 => some M_10)) = z
      cases z <;> rfl
    rw [f_X11_swaps_L18, if_neg (by rw [show gI M 1 64 = nI n from (h.2.1 64 (by decide)).trans hy]; exact nI_ge hi (by omega)), yof5 i4, ob1_s, e2', ob1_s, yof13 i4, ob1_s, e3', ob1_s, lt1_s, nI_1]
theorem s_swaps {X Y : Mm} (h : Rel X Y) : ∃ r X' Y', f_X10_swapTransducers X = some (r, X') ∧ f_X11_swaps Y = some (r, Y') ∧ Rel X' Y' ∧ (r = 0 ∨ r = 1) ∧ (∀ k, 28 ≤ k → X'.1 k = X.1 k) ∧ (∀ a, a ≠ 1 → Y'.1 a = Y.1 a) := by
  have hG := h.pg
  obtain ⟨⟨n, hA⟩, -, -, -, ⟨hsw, hz⟩, -⟩ := id hG
  obtain ⟨hn, hx, hy, hp, hq⟩ := id hA
  obtain ⟨X1, ex, x1, x2, x3⟩ := x_exch (X := X)
  obtain ⟨Y1, ey, y1, y2, y3, y4⟩ := y_exch (Y := wI Y 1 83 (1 - Y.1 1 83)) hn ((wI_k (by decide)).trans hy)
  have row : ∀ q k, q < 4 → k < 16 → (wI Y 1 83 (1 - Y.1 1 83)).1 1 (16 * q + k) = Y.1 1 (16 * q + k) := fun q k hq hk => wI_k (by omega)
  let v : Int32 := if X.1 0 4 = 0 then 1 else 0
  have ev : v = if X.1 0 4 = 0 then 1 else 0 := rfl
  have hv : (v = 0 ∨ v = 1) ∧ (1 : Int32) - Y.1 1 83 = v := by
    rw [ev, hsw]
    rcases hz with z | z
    · rw [z]; exact ⟨Or.inr rfl, rfl⟩
    · rw [z]; exact ⟨Or.inl rfl, rfl⟩
  have bzv : bz v = true := by
    rcases hv.1 with z | z
    · rw [z]; rfl
    · rw [z]; rfl
  unfold f_X10_swapTransducers f_X11_swaps f_X10_asNumber
  refine ⟨v, wI X1 0 4 v, Y1, ?_, ?_, ?_, hv.1, fun k hk => ?_, fun a ha => ?_⟩
  · rw [ex, ob1_s, show gI X1 0 4 = X.1 0 4 from congrFun (x2 0 (by decide)) 4, ob1_if]
    rw [← ev, chk_p bzv, lt1_s, show gI (wI X1 0 4 v) 0 4 = v from wI_e]
    rcases hv.1 with z | z
    · rw [z]; rfl
    · rw [z]; rfl
  · rw [lt1_s, show f_X11_swaps_L18 1000 0 (wI Y 1 83 (1 - gI Y 1 83)) = some Y1 from ey, ob1_s, show gI Y1 1 83 = v from (y2 83 (by decide)).trans (wI_e.trans hv.2)]
  · refine Rel.of ?_ (Rest_pages (X := X) (Y := Y) (fun k hk => ⟨?_, ?_⟩) (fun a ha => ?_) (fun _ _ => by rw [y4]; rfl) h.rest)
    · obtain ⟨-, ⟨m, hF⟩, hS, ⟨r, hR⟩, -, hcl, hvv⟩ := hG
      have k0 : ∀ o, 10 ≤ o → (wI X1 0 4 v).1 o = X.1 o := fun o ho => by rw [wI_o (by omega), x2 o (by omega)]
      have p0 : ∀ k, 64 ≤ k → k ≠ 83 → Y1.1 1 k = Y.1 1 k := fun k hk h83 => by rw [y2 k hk, wI_k h83]
      have z0 : ∀ j, j ≠ 4 → (wI X1 0 4 v).1 0 j = X.1 0 j := fun j hj => by rw [wI_k hj, x2 0 (by decide)]
      refine ⟨⟨n, hn, (z0 1 (by decide)).trans hx, (p0 64 (by decide) (by decide)).trans hy, fun i hi => ?_, fun i hi hi4 => ?_⟩, ⟨m, PF_congr (congrFun (k0 10 (by decide)) 2) (fun k hk => ⟨congrFun (k0 11 (by decide)) k, congrFun (k0 12 (by decide)) k⟩) (fun k h1 h2 => p0 k (by omega) (by omega)) hF⟩, PS_congr (fun k hk => congrFun (k0 13 (by decide)) k) (fun k h1 h2 => p0 k (by omega) (by omega)) hS, ⟨r, PR_congr (congrFun (k0 14 (by decide)) 1) (fun k hk j hj => congrFun (k0 _ (by omega)) j) (fun k h1 h2 => p0 k (by omega) (by omega)) hR⟩, ⟨?_, ?_⟩, ?_, ?_⟩
      · rw [wI_o (by omega), wI_o (by omega), (x1 i (by omega)).1, (x1 i (by omega)).2]
        refine PL_congr (fun _ _ => rfl) (fun _ _ => rfl) (fun k hk => ?_) (PL_swap (hp i hi))
        rw [y1 i (by omega) k hk, if_pos hi]
        have e : (fun k => (wI Y 1 83 (1 - Y.1 1 83)).1 1 (16 * i + k)) = fun k => if k = 83 - 16 * i then (wI Y 1 83 (1 - Y.1 1 83)).1 1 (16 * i + k) else Y.1 1 (16 * i + k) := by
          funext k
          by_cases c : k = 83 - 16 * i
          · rw [if_pos c]
          · rw [if_neg c, wI_k (by omega)]
        unfold swP
        simp only [row i 5 (by omega) (by decide), row i 6 (by omega) (by decide), row i 13 (by omega) (by decide), row i 14 (by omega) (by decide), row i k (by omega) hk]
      · obtain ⟨c1, c2, c3, c4, c5, c6, c7, c8⟩ := hq i hi hi4
        rw [wI_o (by omega), wI_o (by omega), (x1 i hi4).1, (x1 i hi4).2]
        exact ⟨c1, c2, c3, c4, c5, c6, c7, c8⟩
      · rw [y2 83 (by decide), wI_e, wI_e]
        exact hv.2
      · rw [wI_e]; exact hv.1
      · rw [z0 6 (by decide), z0 7 (by decide), p0 84 (by decide) (by decide), p0 85 (by decide) (by decide)]
        exact hcl
      · rw [y4]
        show Y.2 2 0 = X1.2 0 8 ∧ Y.2 2 1 = X1.2 0 9
        rw [x3]
        exact hvv
    · rw [wI_o (by omega), x2 k (by omega)]
    · show X1.2 k = _
      rw [x3]
    · rw [y3 a ha, wI_o ha]
  · rw [wI_o (by omega), x2 k (by omega)]
  · rw [y3 a ha, wI_o ha]
theorem s_swap {X Y : Mm} (h : Rel X Y) : ∃ r X' Y', f_X10_swap X = some (r, X') ∧ f_X11_swap Y = some (r, Y') ∧ Rel X' Y' := by
  unfold f_X10_swap f_X11_swap
  obtain ⟨X1, Y1, p1, p2, -, -, h1⟩ := s_push h
  obtain ⟨r, X2, Y2, e1, e2, h2, -⟩ := s_swaps h1
  rw [p1, p2, ob1_s, ob1_s, e1, e2]
  exact ⟨r, X2, Y2, rfl, rfl, h2⟩

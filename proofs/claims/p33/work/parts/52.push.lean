/-! THE HISTORY AND THE SLOTS, on both sides -/
theorem cpLoop {L : Nat → Int32 → Mm → Option Mm} (Y : Mm) (N d s od os : Nat) (hN : N < 1000) (hsep : s ≠ d ∨ od ≤ os) (he : ∀ f M, L (f + 1) (nI N) M = some M)
    (hs : ∀ f i M, i < N → (∀ b, b ≠ d → M.1 b = Y.1 b) → L (f + 1) (nI i) M = L f (nI (i + 1)) (wI M d (od + i) (gI M s (os + i)))) :
    ∃ Y', L 1000 (0 : Int32) Y = some Y' ∧ (∀ b j, Y'.1 b j = if b = d ∧ od ≤ j ∧ j < od + N then Y.1 s (os + (j - od)) else Y.1 b j) ∧ Y'.2 = Y.2 := by
  refine lpUp (L := L) N (fun i M => (∀ b j, M.1 b j = if b = d ∧ od ≤ j ∧ j < od + i then Y.1 s (os + (j - od)) else Y.1 b j) ∧ M.2 = Y.2) (fun M => (∀ b j, M.1 b j = if b = d ∧ od ≤ j ∧ j < od + N then Y.1 s (os + (j - od)) else Y.1 b j) ∧ M.2 = Y.2) (fun f M h => ⟨M, he f M, h⟩) (fun f i M hi h => Or.inr ⟨wI M d (od + i) (gI M s (os + i)), ⟨fun b j => ?_, h.2⟩, hs f i M hi (fun b hb => funext fun j => by rw [h.1, if_neg (fun q => hb q.1)])⟩) hN ⟨fun b j => by rw [if_neg (by omega)], rfl⟩
  have src : gI M s (os + i) = Y.1 s (os + i) := by
    show M.1 s (os + i) = _
    rw [h.1, if_neg (by omega)]
  rw [src]
  show (if b = d ∧ j = od + i then Y.1 s (os + i) else M.1 b j) = _
  by_cases c : b = d ∧ j = od + i
  · obtain ⟨rfl, rfl⟩ := c
    rw [if_pos ⟨rfl, rfl⟩, if_pos ⟨rfl, by omega, by omega⟩, Nat.add_sub_cancel_left]
  · rw [if_neg c, h.1]
    by_cases c2 : b = d ∧ od ≤ j ∧ j < od + i
    · rw [if_pos c2, if_pos ⟨c2.1, c2.2.1, by omega⟩]
    · rw [if_neg c2, if_neg (by
        rintro ⟨q1, q2, q3⟩
        by_cases e : j = od + i
        · exact c ⟨q1, e⟩
        · exact c2 ⟨q1, q2, by omega⟩)]
def Kx (X X' : Mm) : Prop := ∀ k, k < 28 ∨ 168 ≤ k → (k ≠ 225 → X'.1 k = X.1 k) ∧ X'.2 k = X.2 k
def Ky (Y Y' : Mm) : Prop := (∀ a, a ≠ 0 → a ≠ 3 → Y'.1 a = Y.1 a) ∧ (∀ j, j ≠ 4 → Y'.1 0 j = Y.1 0 j) ∧ ∀ a, a ≠ 4 → Y'.2 a = Y.2 a
theorem Kx.tr {X X' X'' : Mm} (h : Kx X X') (h2 : Kx X' X'') : Kx X X'' := fun k hk => ⟨fun q => ((h2 k hk).1 q).trans ((h k hk).1 q), (h2 k hk).2.trans (h k hk).2⟩
theorem Ky.tr {X X' X'' : Mm} (h : Ky X X') (h2 : Ky X' X'') : Ky X X'' := ⟨fun a h0 h3 => (h2.1 a h0 h3).trans (h.1 a h0 h3), fun j hj => (h2.2.1 j hj).trans (h.2.1 j hj), fun a ha => (h2.2.2 a ha).trans (h.2.2 a ha)⟩
theorem Kx.rf {X : Mm} : Kx X X := fun _ _ => ⟨fun _ => rfl, rfl⟩
theorem Ky.rf {X : Mm} : Ky X X := ⟨fun _ _ _ => rfl, fun _ _ => rfl, fun _ _ => rfl⟩
theorem HX_drop {X Y : Mm} (h : HX X Y) (h5 : gI Y 0 4 = nI 5) :
    ∃ X1 Y1, f_X1_dropOldest X = some X1 ∧ (ob1 (f_X11_records_L10 1000 (0 : Int32) Y) fun M_4 => ob1 (f_X11_records_L41 1000 (0 : Int32) M_4) fun M_9 => lt1 (wI M_9 0 4 ((gI M_9 0 4) - (1 : Int32))) fun M_12 => some M_12) = some Y1 ∧ Kx X X1 ∧ Ky Y Y1 ∧ HX X1 Y1 ∧ gI Y1 0 4 = nI 4 := by
  obtain ⟨Y2, e2, h2, h2j⟩ := cpLoop (L := f_X11_records_L10) Y 636 3 3 0 159 (by decide) (Or.inr (by decide)) (fun f M => by rw [f_X11_records_L10, if_pos (show (636 : Int32) ≤ nI 636 by decide)]) (fun f i M hi _ => by
    rw [f_X11_records_L10, if_neg (show ¬ (636 : Int32) ≤ nI i from nI_ge hi (by decide)), show nI i + (159 : Int32) = nI (i + 159) from nI_add i 159, chk_p (inb_n (by omega) (by decide)), chk_p (inb_n (by omega) (by decide)), ix_n (by omega), ix_n (by omega), lt1_s, lt1_s, nI_succ, Nat.zero_add, Nat.add_comm 159 i])
  obtain ⟨Y3, e3, h3, h3i⟩ : ∃ Y3, f_X11_records_L41 1000 (0 : Int32) Y2 = some Y3 ∧ (∀ j, Y3.2 4 j = if j < 8 then Y2.2 4 (j + 2) else Y2.2 4 j) ∧ Y3.1 = Y2.1 ∧ ∀ a, a ≠ 4 → Y3.2 a = Y2.2 a := by
    refine lpUp (L := f_X11_records_L41) 8 (fun i M => (∀ j, M.2 4 j = if j < i then Y2.2 4 (j + 2) else Y2.2 4 j) ∧ M.1 = Y2.1 ∧ ∀ a, a ≠ 4 → M.2 a = Y2.2 a) (fun M => (∀ j, M.2 4 j = if j < 8 then Y2.2 4 (j + 2) else Y2.2 4 j) ∧ M.1 = Y2.1 ∧ ∀ a, a ≠ 4 → M.2 a = Y2.2 a) (fun f M h => ⟨M, by rw [f_X11_records_L41, if_pos (show (8 : Int32) ≤ nI 8 by decide)], h⟩) (fun f i M hi h => Or.inr ⟨wJ M 4 i (gJ M 4 (i + 2)), ⟨fun j => ?_, h.2.1, fun a ha => funext fun j => ?_⟩, ?_⟩) (by decide) ⟨fun j => by rw [if_neg (by omega)], rfl, fun _ _ => rfl⟩
    · show (if 4 = 4 ∧ j = i then M.2 4 (i + 2) else M.2 4 j) = _
      rw [h.1, h.1, if_neg (by omega : ¬ i + 2 < i)]
      by_cases c : j = i
      · rw [if_pos ⟨rfl, c⟩, if_pos (by omega), c]
      · rw [if_neg (fun q => c q.2)]
        by_cases c2 : j < i
        · rw [if_pos c2, if_pos (by omega)]
        · rw [if_neg c2, if_neg (by omega)]
    · show (if a = 4 ∧ j = i then M.2 4 (i + 2) else M.2 a j) = _
      rw [if_neg (fun q => ha q.1), h.2.2 a ha]
    · rw [f_X11_records_L41, if_neg (show ¬ (8 : Int32) ≤ nI i from nI_ge hi (by decide)), show nI i + (2 : Int32) = nI (i + 2) from nI_add i 2, chk_p (inb_n (by omega) (by decide)), chk_p (inb_n (by omega) (by decide)), ix_n (by omega), ix_n (by omega), lt1_s, lt1_s, nI_succ]
  have g4 : gI Y3 0 4 = nI 5 := by
    show Y3.1 0 4 = _
    rw [h3i.1, h2, if_neg (by decide)]
    exact h5
  obtain ⟨c, hc, hcx, hcy, hp⟩ := h
  obtain rfl : c = 5 := (nI_eq (by omega) (by decide)).mp (hcy.symm.trans h5)
  refine ⟨wI (shH X) 225 1 4, wI Y3 0 4 (nI 4), rfl, ?_, ?_, ⟨?_, ?_, ?_⟩, ⟨4, by decide, rfl, rfl, ?_⟩, rfl⟩
  · rw [e2, ob1_s, e3, ob1_s, lt1_s, g4]
    rfl
  · intro k hk
    have e : piH k = k := by
      unfold piH
      rw [if_neg (by omega), if_neg (by omega)]
    refine ⟨fun h225 => funext fun j => ?_, ?_⟩
    · show (if k = 225 ∧ j = 1 then (4 : Int32) else X.1 (piH k) j) = _
      rw [if_neg (fun q => h225 q.1), e]
    · show X.2 (piH k) = _
      rw [e]
  · intro a h0 h3'
    funext j
    show (if a = 0 ∧ j = 4 then nI 4 else Y3.1 a j) = _
    rw [if_neg (fun q => h0 q.1), h3i.1, h2, if_neg (fun q => h3' q.1)]
  · intro j hj
    show (if 0 = 0 ∧ j = 4 then nI 4 else Y3.1 0 j) = _
    rw [if_neg (fun q => hj q.2), h3i.1, h2, if_neg (by omega)]
  · intro a ha
    show Y3.2 a = _
    rw [h3i.2 a ha, h2j]
  · intro j hj
    have ep : ∀ o, o < 28 → piH (28 * (j + 1) + o) = 28 * (j + 1 + 1) + o := fun o ho => by
      unfold piH
      rw [if_pos (by omega)]
      omega
    refine PG_congr (fun o i ho hi hcov => ?_) ⟨?_, ?_⟩ (fun k hk => ?_) ⟨?_, ?_⟩ (hp (j + 1) (by omega))
    · show (if 28 * (j + 1) + o = 225 ∧ i = 1 then (4 : Int32) else X.1 (piH (28 * (j + 1) + o)) i) = X.1 (28 * (j + 1 + 1) + o) i
      rw [if_neg (by omega), ep o ho]
    · show X.2 (piH (28 * (j + 1))) 8 = _
      rw [show piH (28 * (j + 1)) = 28 * (j + 1 + 1) from ep 0 (by decide)]
    · show X.2 (piH (28 * (j + 1))) 9 = _
      rw [show piH (28 * (j + 1)) = 28 * (j + 1 + 1) from ep 0 (by decide)]
    · show (if 3 = 0 ∧ 159 * j + k = 4 then nI 4 else Y3.1 3 (159 * j + k)) = _
      rw [if_neg (by omega), h3i.1, h2, if_pos ⟨rfl, by omega, by omega⟩]
      refine congrArg (Y.1 3) ?_
      omega
    · show Y3.2 4 (2 * j + 0) = _
      rw [h3, if_pos (by omega), h2j]
      refine congrArg (Y.2 4) ?_
      omega
    · show Y3.2 4 (2 * j + 1) = _
      rw [h3, if_pos (by omega), h2j]
      refine congrArg (Y.2 4) ?_
      omega
theorem rid52 {k c : Nat} (hc : c < 5) : rid 52 k (ix (nI c)) = 28 * (c + 1) := by
  rw [ix_n (by omega)]
  rfl
theorem rid53 {k c : Nat} (hc : c < 2) : rid 53 k (ix (nI c)) = 28 * (c + 6) := by
  rw [ix_n (by omega)]
  rfl
/-- one state more -/
theorem HX_add {X Y : Mm} (h : HX X Y) {c : Nat} (hc : c < 5) (hx : gI X 225 1 = nI c) (hy : gI Y 0 4 = nI c) (hG : PG (vI X 0) (X.2 0) (Y.1 1) (Y.2 2)) :
    ∃ X1 Y1, (ob1 (f_X8_copyFrom (rid 52 226 (ix (gI X 225 1))) 0 X) fun M_5 => lt1 (wI M_5 225 1 ((gI M_5 225 1) + (1 : Int32))) fun M_6 => some M_6) = some X1 ∧
      (ob1 (f_X11_records_L79 1000 (0 : Int32) Y) fun M_15 => chk (inb ((2 : Int32) * (gI M_15 0 4)) 10) <| lt1 (wJ M_15 4 (ix ((2 : Int32) * (gI M_15 0 4))) (gJ M_15 2 0)) fun M_18 => chk (inb (((2 : Int32) * (gI M_18 0 4)) + (1 : Int32)) 10) <| lt1 (wJ M_18 4 (ix (((2 : Int32) * (gI M_18 0 4)) + (1 : Int32))) (gJ M_18 2 1)) fun M_19 => lt1 (wI M_19 0 4 ((gI M_19 0 4) + (1 : Int32))) fun M_20 => some M_20) = some Y1 ∧
      Kx X X1 ∧ Ky Y Y1 ∧ HX X1 Y1 := by
  have ha : APT (28 * (c + 1)) 0 := Or.inr (by omega)
  obtain ⟨X2, ex, hX⟩ := cp8 (M := X) ha (PG_bz hG)
  obtain ⟨Y2, ey, hY, hYj⟩ := cpLoop (L := f_X11_records_L79) Y 159 3 1 (159 * c) 0 (by decide) (Or.inl (by decide)) (fun f M => by rw [f_X11_records_L79, if_pos (show (159 : Int32) ≤ nI 159 by decide)]) (fun f i M hi hM => by
    have e : gI M 0 4 = nI c := (congrFun (hM 0 (by decide)) 4).trans hy
    rw [f_X11_records_L79, if_neg (show ¬ (159 : Int32) ≤ nI i from nI_ge hi (by decide)), e, show (159 : Int32) * nI c + nI i = nI (159 * c + i) from (congrArg (· + nI i) (nI_mul 159 c)).trans (nI_add _ _), chk_p (inb_n (by omega) (by decide)), chk_p (inb_n (by omega) (by decide)), ix_n (by omega), ix_n (by omega), lt1_s, lt1_s, nI_succ, Nat.zero_add])
  have gx : gI X2 225 1 = nI c := by
    show X2.1 225 1 = _
    rw [hX.1, if_neg (by omega)]
    exact hx
  have gy : gI Y2 0 4 = nI c := by
    show Y2.1 0 4 = _
    rw [hY, if_neg (by omega)]
    exact hy
  have m2 : (2 : Int32) * nI c = nI (2 * c) := nI_mul 2 c
  have m3 : (2 : Int32) * nI c + (1 : Int32) = nI (2 * c + 1) := by rw [m2]; exact nI_1 _
  obtain ⟨c', hc', hcx, hcy, hp⟩ := h
  obtain rfl : c' = c := (nI_eq (by omega) (by omega)).mp (hcy.symm.trans hy)
  refine ⟨wI X2 225 1 (nI (c' + 1)), wI (wJ (wJ Y2 4 (2 * c') (Y2.2 2 0)) 4 (2 * c' + 1) (Y2.2 2 1)) 0 4 (nI (c' + 1)), ?_, ?_, ?_, ⟨?_, ?_, ?_⟩, ⟨c' + 1, by omega, rfl, rfl, ?_⟩⟩
  · rw [hx, rid52 hc, ex, ob1_s, lt1_s, gx, nI_succ]
  · rw [ey, ob1_s, gy, m2, chk_p (inb_n (by omega) (by decide)), ix_n (by omega), lt1_s, gI_wJ, gy, m3, chk_p (inb_n (by omega) (by decide)), ix_n (by omega), lt1_s, gI_wJ, gI_wJ, gy, nI_succ]
    rfl
  · intro k hk
    refine ⟨fun h225 => funext fun j => ?_, funext fun j => ?_⟩
    · show (if k = 225 ∧ j = 1 then nI (c' + 1) else X2.1 k j) = _
      rw [if_neg (fun q => h225 q.1), hX.1, if_neg (by omega)]
    · show X2.2 k j = _
      rw [hX.2, if_neg (by omega)]
  · intro a h0 h3
    funext j
    show (if a = 0 ∧ j = 4 then nI (c' + 1) else Y2.1 a j) = _
    rw [if_neg (fun q => h0 q.1), hY, if_neg (fun q => h3 q.1)]
  · intro j hj
    show (if 0 = 0 ∧ j = 4 then nI (c' + 1) else Y2.1 0 j) = _
    rw [if_neg (fun q => hj q.2), hY, if_neg (by omega)]
  · intro a ha4
    funext j
    show (if a = 4 ∧ j = 2 * c' + 1 then Y2.2 2 1 else if a = 4 ∧ j = 2 * c' then Y2.2 2 0 else Y2.2 a j) = _
    rw [if_neg (fun q => ha4 q.1), if_neg (fun q => ha4 q.1), hYj]
  · intro j hj
    have eJ : ∀ v, (wI (wJ (wJ Y2 4 (2 * c') (Y2.2 2 0)) 4 (2 * c' + 1) (Y2.2 2 1)) 0 4 (nI (c' + 1))).2 4 v = if v = 2 * c' + 1 then Y.2 2 1 else if v = 2 * c' then Y.2 2 0 else Y.2 4 v := fun v => by
      show (if 4 = 4 ∧ v = 2 * c' + 1 then Y2.2 2 1 else if 4 = 4 ∧ v = 2 * c' then Y2.2 2 0 else Y2.2 4 v) = _
      simp only [true_and, hYj]
    rcases Nat.eq_or_lt_of_le (show j ≤ c' by omega) with e | e
    · subst e
      refine PG_congr (fun o i ho hi hcov => ?_) ⟨?_, ?_⟩ (fun k hk => ?_) ⟨?_, ?_⟩ hG
      · show (if 28 * (j + 1) + o = 225 ∧ i = 1 then nI (j + 1) else X2.1 (28 * (j + 1) + o) i) = X.1 (0 + o) i
        rw [if_neg (by omega), hX.1, Nat.add_sub_cancel_left, if_pos ⟨by omega, by omega, hcov⟩]
      · show X2.2 (28 * (j + 1)) 8 = _
        rw [hX.2, if_pos ⟨rfl, rfl⟩]
      · show X2.2 (28 * (j + 1)) 9 = _
        rw [hX.2, if_pos ⟨rfl, rfl⟩]
      · show (if 3 = 0 ∧ 159 * j + k = 4 then nI (j + 1) else Y2.1 3 (159 * j + k)) = _
        rw [if_neg (by omega), hY, if_pos ⟨rfl, by omega, by omega⟩, Nat.add_sub_cancel_left, Nat.zero_add]
      · rw [eJ, if_neg (by omega), if_pos (by omega)]
      · rw [eJ, if_pos rfl]
    · refine PG_congr (fun o i ho hi hcov => ?_) ⟨?_, ?_⟩ (fun k hk => ?_) ⟨?_, ?_⟩ (hp j e)
      · show (if 28 * (j + 1) + o = 225 ∧ i = 1 then nI (c' + 1) else X2.1 (28 * (j + 1) + o) i) = X.1 (28 * (j + 1) + o) i
        rw [if_neg (by omega), hX.1, if_neg (by omega)]
      · show X2.2 (28 * (j + 1)) 8 = _
        rw [hX.2, if_neg (by omega)]
      · show X2.2 (28 * (j + 1)) 9 = _
        rw [hX.2, if_neg (by omega)]
      · show (if 3 = 0 ∧ 159 * j + k = 4 then nI (c' + 1) else Y2.1 3 (159 * j + k)) = _
        rw [if_neg (by omega), hY, if_neg (by omega)]
      · rw [eJ, if_neg (by omega), if_neg (by omega)]
      · rw [eJ, if_neg (by omega), if_neg (by omega)]
/-- what a change of the present state alone leaves -/
def Rest (X Y : Mm) : Prop := HX X Y ∧ SL X Y ∧ TX X Y
theorem SL_keep {X Y X' Y' : Mm} (hx : ∀ k, 168 ≤ k → k < 224 ∨ k = 228 → X'.1 k = X.1 k ∧ X'.2 k = X.2 k) (hy : ∀ a, a = 5 ∨ a = 7 → Y'.1 a = Y.1 a) (hy2 : Y'.2 6 = Y.2 6) (h : SL X Y) : SL X' Y' := by
  intro j hj
  obtain ⟨h1, h2⟩ := h j hj
  rw [(hx 228 (by decide) (by decide)).1, hy 7 (by decide)]
  refine ⟨h1, ?_⟩
  rcases h2 with q | ⟨q, hG⟩
  · exact Or.inl q
  · refine Or.inr ⟨q, PG_congr (fun o i ho _ _ => ?_) ⟨?_, ?_⟩ (fun k _ => ?_) ⟨?_, ?_⟩ hG⟩
    · exact congrFun (hx _ (by omega) (by omega)).1 i
    · exact congrFun (hx _ (by omega) (by omega)).2 8
    · exact congrFun (hx _ (by omega) (by omega)).2 9
    · exact congrFun (hy 5 (by decide)) _
    · exact congrFun hy2 _
    · exact congrFun hy2 _
theorem TX_keep {X Y X' Y' : Mm} (hx : X'.1 230 1 = X.1 230 1 ∧ X'.1 231 = X.1 231) (hy : Y'.1 0 9 = Y.1 0 9 ∧ Y'.1 8 = Y.1 8) (h : TX X Y) : TX X' Y' := by
  obtain ⟨t, h1, h2, h3, h4⟩ := h
  exact ⟨t, h1, hx.1.trans h2, hy.1.trans h3, fun k hk => by rw [hx.2, hy.2]; exact h4 k hk⟩
theorem HX_keep {X Y X' Y' : Mm} (hx : ∀ k, 28 ≤ k → k < 168 → X'.1 k = X.1 k ∧ X'.2 k = X.2 k) (hx2 : X'.1 225 1 = X.1 225 1) (hy : Y'.1 0 4 = Y.1 0 4) (hy2 : Y'.1 3 = Y.1 3 ∧ Y'.2 4 = Y.2 4) (h : HX X Y) : HX X' Y' := by
  obtain ⟨c, h1, h2, h3, h4⟩ := h
  refine ⟨c, h1, hx2.trans h2, hy.trans h3, fun j hj => PG_congr (fun o i ho _ _ => ?_) ⟨?_, ?_⟩ (fun k _ => ?_) ⟨?_, ?_⟩ (h4 j hj)⟩
  · exact congrFun (hx _ (by omega) (by omega)).1 i
  · exact congrFun (hx _ (by omega) (by omega)).2 8
  · exact congrFun (hx _ (by omega) (by omega)).2 9
  · exact congrFun hy2.1 _
  · exact congrFun hy2.2 _
  · exact congrFun hy2.2 _
/-- ids of the class's memory, and rows of the reference's, that the rest of the relation rests on: all from 28 on but the judgement's and the reader's; all but the page, its volumes and the scratch -/
theorem Rest_keep {X Y X' Y' : Mm} (hx : ∀ k, 28 ≤ k → k < 229 ∨ k = 230 ∨ k = 231 → X'.1 k = X.1 k ∧ X'.2 k = X.2 k) (hy0 : Y'.1 0 4 = Y.1 0 4 ∧ Y'.1 0 9 = Y.1 0 9) (hy : ∀ a, a = 3 ∨ a = 5 ∨ a = 7 ∨ a = 8 → Y'.1 a = Y.1 a) (hy2 : ∀ a, a = 4 ∨ a = 6 → Y'.2 a = Y.2 a) (h : Rest X Y) : Rest X' Y' :=
  ⟨HX_keep (fun k h1 h2 => hx k h1 (by omega)) (congrFun (hx 225 (by decide) (by decide)).1 1) hy0.1 ⟨hy 3 (by decide), hy2 4 (by decide)⟩ h.1, SL_keep (fun k h1 h2 => hx k (by omega) (by omega)) (fun a ha => hy a (by omega)) (hy2 6 (by decide)) h.2.1, TX_keep ⟨congrFun (hx 230 (by decide) (by decide)).1 1, (hx 231 (by decide) (by decide)).1⟩ ⟨hy0.2, hy 8 (by decide)⟩ h.2.2⟩
theorem s_push {X Y : Mm} (h : Rel X Y) : ∃ X' Y', f_X1_push X = some X' ∧ f_X11_records Y = some Y' ∧ Kx X X' ∧ Ky Y Y' ∧ Rel X' Y' := by
  obtain ⟨hG, hH, hS, hT⟩ := h
  obtain ⟨c, hc, hcx, hcy, -⟩ := id hH
  have fin : ∀ {X1 Y1 X2 Y2 : Mm}, Kx X X1 → Ky Y Y1 → Kx X1 X2 → Ky Y1 Y2 → HX X2 Y2 → Kx X X2 ∧ Ky Y Y2 ∧ Rel X2 Y2 := by
    intro X1 Y1 X2 Y2 kx1 ky1 kx2 ky2 hH2
    have kx := kx1.tr kx2
    have ky := ky1.tr ky2
    refine ⟨kx, ky, ?_, hH2, ?_, ?_⟩
    · refine PG_congr (fun o i ho _ _ => ?_) ⟨?_, ?_⟩ (fun k _ => ?_) ⟨?_, ?_⟩ hG
      · exact congrFun ((kx (0 + o) (by omega)).1 (by omega)) i
      · exact congrFun (kx 0 (by omega)).2 8
      · exact congrFun (kx 0 (by omega)).2 9
      · exact congrFun (ky.1 1 (by decide) (by decide)) k
      · exact congrFun (ky.2.2 2 (by decide)) 0
      · exact congrFun (ky.2.2 2 (by decide)) 1
    · exact SL_keep (fun k h1 h2 => ⟨(kx k (by omega)).1 (by omega), (kx k (by omega)).2⟩) (fun a ha => ky.1 a (by omega) (by omega)) (ky.2.2 6 (by decide)) hS
    · exact TX_keep ⟨congrFun ((kx 230 (by omega)).1 (by decide)) 1, (kx 231 (by omega)).1 (by decide)⟩ ⟨ky.2.1 9 (by decide), ky.1 8 (by decide) (by decide)⟩ hT
  rcases Nat.eq_or_lt_of_le hc with e5 | e5
  · subst e5
    obtain ⟨X1, Y1, e1, e2, kx1, ky1, hH1, g4⟩ := HX_drop hH hcy
    have g4x : gI X1 225 1 = nI 4 := by
      obtain ⟨c', hc', q1, q2, -⟩ := hH1
      rw [q1, ← q2, g4]
    have hG1 : PG (vI X1 0) (X1.2 0) (Y1.1 1) (Y1.2 2) := by
      refine PG_congr (fun o i ho _ _ => ?_) ⟨?_, ?_⟩ (fun k _ => ?_) ⟨?_, ?_⟩ hG
      · exact congrFun ((kx1 (0 + o) (by omega)).1 (by omega)) i
      · exact congrFun (kx1 0 (by omega)).2 8
      · exact congrFun (kx1 0 (by omega)).2 9
      · exact congrFun (ky1.1 1 (by decide) (by decide)) k
      · exact congrFun (ky1.2.2 2 (by decide)) 0
      · exact congrFun (ky1.2.2 2 (by decide)) 1
    obtain ⟨X2, Y2, e3, e4, kx2, ky2, hH2⟩ := HX_add hH1 (c := 4) (by decide) g4x g4 hG1
    refine ⟨X2, Y2, ?_, ?_, fin kx1 ky1 kx2 ky2 hH2⟩
    · unfold f_X1_push
      rw [hcx, if_neg (show ¬ nI 5 < (5 : Int32) by decide), e1, ob1_s, ob1_s, g4x, if_neg (show ¬ nI 4 < (0 : Int32) by decide), if_neg (show ¬ (5 : Int32) ≤ nI 4 by decide), chk_p (show inb (nI 4) 5 = true by decide), ← g4x]
      exact e3
    · unfold f_X11_records
      rw [hcy, if_pos (show nI 5 = (5 : Int32) from rfl), e2, ob1_s]
      exact e4
  · obtain ⟨X2, Y2, e3, e4, kx2, ky2, hH2⟩ := HX_add hH e5 hcx hcy hG
    refine ⟨X2, Y2, ?_, ?_, fin Kx.rf Ky.rf kx2 ky2 hH2⟩
    · unfold f_X1_push
      rw [hcx, if_pos (show nI c < (5 : Int32) from nI_lt e5 (by decide)), ob1_s, hcx, if_neg (nI_pos (by omega)), if_neg (show ¬ (5 : Int32) ≤ nI c from nI_ge e5 (by decide)), chk_p (inb_n e5 (by decide)), ← hcx]
      exact e3
    · unfold f_X11_records
      rw [hcy, if_neg (show ¬ nI c = (5 : Int32) from fun q => absurd ((nI_eq (by omega) (by decide)).mp (show nI c = nI 5 from q)) (by omega)), ob1_s]
      exact e4

/-! ADDING A PATH, TOTALS -/
theorem y_fill {Y : Mm} {n : Nat} (hn : n < 4) : ∃ Z, f_X11_addPath_L103 (nI n) 1000 (0 : Int32) Y = some Z ∧ (∀ j, Z.1 1 j = if 16 * n ≤ j ∧ j < 16 * n + 16 then 0 else Y.1 1 j) ∧ (∀ a, a ≠ 1 → Z.1 a = Y.1 a) ∧ Z.2 = Y.2 := by
  refine lpUp (L := fun f x s => f_X11_addPath_L103 (nI n) f x s) 16 (fun i M => (∀ j, M.1 1 j = if 16 * n ≤ j ∧ j < 16 * n + i then 0 else Y.1 1 j) ∧ (∀ a, a ≠ 1 → M.1 a = Y.1 a) ∧ M.2 = Y.2) _ (fun f M h => ⟨M, by rw [f_X11_addPath_L103, if_pos (show (16 : Int32) ≤ nI 16 by decide)], h⟩) (fun f i M hi h => Or.inr ⟨wI M 1 (16 * n + i) 0, ⟨fun j => ?_, fun a ha => ?_, h.2.2⟩, ?_⟩) (by decide) ⟨fun j => by rw [if_neg (by omega)], fun _ _ => rfl, rfl⟩
  · show (if 1 = 1 ∧ j = 16 * n + i then (0 : Int32) else M.1 1 j) = _
    rw [h.1]
    by_cases c : j = 16 * n + i
    · rw [if_pos ⟨rfl, c⟩, if_pos (by omega)]
    · rw [if_neg (fun q => c q.2)]
      by_cases c2 : 16 * n ≤ j ∧ j < 16 * n + i
      · rw [if_pos c2, if_pos (by omega)]
      · rw [if_neg c2, if_neg (by omega)]
  · rw [wI_o ha, h.2.1 a ha]
  · rw [f_X11_addPath_L103, if_neg (show ¬ (16 : Int32) ≤ nI i from nI_ge hi (by decide)), y_lay hn hi, ob1_s, lt1_s, nI_1]
def yAdd (Z : Mm) (n : Nat) (x1 x2 x3 x4 x5 : Int32) : Mm := wI (wI (wI (wI (wI (wI (wI (wI (wI (wI (wI (wI Z 1 (16 * n + 0) x1) 1 (16 * n + 1) x2) 1 (16 * n + 2) x3) 1 (16 * n + 3) x4) 1 (16 * n + 4) x5) 1 (16 * n + 5) (-2000000005)) 1 (16 * n + 6) (-2000000005)) 1 (16 * n + 7) (-2000000005)) 1 (16 * n + 8) (-2000000005)) 1 (16 * n + 9) (-2000000005)) 1 (16 * n + 13) (-2000000005)) 1 64 (nI (n + 1))
def xAdd (X1 : Mm) (n : Nat) (x1 x2 x3 x4 x5 : Int32) : Mm := wI (wI (wI (wI (wI (wI X1 (2 + 2 * n) 0 x1) (2 + 2 * n) 1 x2) (2 + 2 * n) 2 x3) (2 + 2 * n) 3 x4) (2 + 2 * n) 4 x5) 0 1 (nI (n + 1))
theorem yAdd_o {Z : Mm} {n a j : Nat} {x1 x2 x3 x4 x5 : Int32} (h : a ≠ 1 ∨ j < 16 * n ∨ 16 * n + 16 ≤ j) (h2 : a ≠ 1 ∨ j ≠ 64) : (yAdd Z n x1 x2 x3 x4 x5).1 a j = Z.1 a j := by
  have s : ∀ (M : Mm) (k : Nat) (v : Int32), k < 16 → (wI M 1 (16 * n + k) v).1 a j = M.1 a j := fun M k v hk => if_neg (fun q => by rcases h with c | c | c <;> omega)
  have s2 : ∀ (M : Mm) (v : Int32), (wI M 1 64 v).1 a j = M.1 a j := fun M v => if_neg (fun q => by rcases h2 with c | c <;> omega)
  unfold yAdd
  rw [s2, s _ _ _ (by decide), s _ _ _ (by decide), s _ _ _ (by decide), s _ _ _ (by decide), s _ _ _ (by decide), s _ _ _ (by decide), s _ _ _ (by decide), s _ _ _ (by decide), s _ _ _ (by decide), s _ _ _ (by decide), s _ _ _ (by decide)]
theorem yAdd_0 {Z : Mm} {n : Nat} {x1 x2 x3 x4 x5 : Int32} (hn : n < 4) (hz : Z.1 1 (16 * n + 0) = 0) : (yAdd Z n x1 x2 x3 x4 x5).1 1 (16 * n + 0) = x1 := by
  have e : ∀ (M : Mm) (a b : Nat) (v : Int32), (wI M 1 b v).1 1 a = if a = b then v else M.1 1 a := fun M a b v => by
    show (if 1 = 1 ∧ a = b then v else M.1 1 a) = _
    simp only [true_and]
  unfold yAdd
  rw [e, if_neg (by omega)]
  simp only [e, Nat.add_left_cancel_iff, Nat.reduceEqDiff, if_true, if_false, reduceIte]
theorem yAdd_1 {Z : Mm} {n : Nat} {x1 x2 x3 x4 x5 : Int32} (hn : n < 4) (hz : Z.1 1 (16 * n + 1) = 0) : (yAdd Z n x1 x2 x3 x4 x5).1 1 (16 * n + 1) = x2 := by
  have e : ∀ (M : Mm) (a b : Nat) (v : Int32), (wI M 1 b v).1 1 a = if a = b then v else M.1 1 a := fun M a b v => by
    show (if 1 = 1 ∧ a = b then v else M.1 1 a) = _
    simp only [true_and]
  unfold yAdd
  rw [e, if_neg (by omega)]
  simp only [e, Nat.add_left_cancel_iff, Nat.reduceEqDiff, if_true, if_false, reduceIte]
theorem yAdd_2 {Z : Mm} {n : Nat} {x1 x2 x3 x4 x5 : Int32} (hn : n < 4) (hz : Z.1 1 (16 * n + 2) = 0) : (yAdd Z n x1 x2 x3 x4 x5).1 1 (16 * n + 2) = x3 := by
  have e : ∀ (M : Mm) (a b : Nat) (v : Int32), (wI M 1 b v).1 1 a = if a = b then v else M.1 1 a := fun M a b v => by
    show (if 1 = 1 ∧ a = b then v else M.1 1 a) = _
    simp only [true_and]
  unfold yAdd
  rw [e, if_neg (by omega)]
  simp only [e, Nat.add_left_cancel_iff, Nat.reduceEqDiff, if_true, if_false, reduceIte]
theorem yAdd_3 {Z : Mm} {n : Nat} {x1 x2 x3 x4 x5 : Int32} (hn : n < 4) (hz : Z.1 1 (16 * n + 3) = 0) : (yAdd Z n x1 x2 x3 x4 x5).1 1 (16 * n + 3) = x4 := by
  have e : ∀ (M : Mm) (a b : Nat) (v : Int32), (wI M 1 b v).1 1 a = if a = b then v else M.1 1 a := fun M a b v => by
    show (if 1 = 1 ∧ a = b then v else M.1 1 a) = _
    simp only [true_and]
  unfold yAdd
  rw [e, if_neg (by omega)]
  simp only [e, Nat.add_left_cancel_iff, Nat.reduceEqDiff, if_true, if_false, reduceIte]
theorem yAdd_4 {Z : Mm} {n : Nat} {x1 x2 x3 x4 x5 : Int32} (hn : n < 4) (hz : Z.1 1 (16 * n + 4) = 0) : (yAdd Z n x1 x2 x3 x4 x5).1 1 (16 * n + 4) = x5 := by
  have e : ∀ (M : Mm) (a b : Nat) (v : Int32), (wI M 1 b v).1 1 a = if a = b then v else M.1 1 a := fun M a b v => by
    show (if 1 = 1 ∧ a = b then v else M.1 1 a) = _
    simp only [true_and]
  unfold yAdd
  rw [e, if_neg (by omega)]
  simp only [e, Nat.add_left_cancel_iff, Nat.reduceEqDiff, if_true, if_false, reduceIte]
theorem yAdd_5 {Z : Mm} {n : Nat} {x1 x2 x3 x4 x5 : Int32} (hn : n < 4) (hz : Z.1 1 (16 * n + 5) = 0) : (yAdd Z n x1 x2 x3 x4 x5).1 1 (16 * n + 5) = (-2000000005) := by
  have e : ∀ (M : Mm) (a b : Nat) (v : Int32), (wI M 1 b v).1 1 a = if a = b then v else M.1 1 a := fun M a b v => by
    show (if 1 = 1 ∧ a = b then v else M.1 1 a) = _
    simp only [true_and]
  unfold yAdd
  rw [e, if_neg (by omega)]
  simp only [e, Nat.add_left_cancel_iff, Nat.reduceEqDiff, if_true, if_false, reduceIte]
theorem yAdd_6 {Z : Mm} {n : Nat} {x1 x2 x3 x4 x5 : Int32} (hn : n < 4) (hz : Z.1 1 (16 * n + 6) = 0) : (yAdd Z n x1 x2 x3 x4 x5).1 1 (16 * n + 6) = (-2000000005) := by
  have e : ∀ (M : Mm) (a b : Nat) (v : Int32), (wI M 1 b v).1 1 a = if a = b then v else M.1 1 a := fun M a b v => by
    show (if 1 = 1 ∧ a = b then v else M.1 1 a) = _
    simp only [true_and]
  unfold yAdd
  rw [e, if_neg (by omega)]
  simp only [e, Nat.add_left_cancel_iff, Nat.reduceEqDiff, if_true, if_false, reduceIte]
theorem yAdd_7 {Z : Mm} {n : Nat} {x1 x2 x3 x4 x5 : Int32} (hn : n < 4) (hz : Z.1 1 (16 * n + 7) = 0) : (yAdd Z n x1 x2 x3 x4 x5).1 1 (16 * n + 7) = (-2000000005) := by
  have e : ∀ (M : Mm) (a b : Nat) (v : Int32), (wI M 1 b v).1 1 a = if a = b then v else M.1 1 a := fun M a b v => by
    show (if 1 = 1 ∧ a = b then v else M.1 1 a) = _
    simp only [true_and]
  unfold yAdd
  rw [e, if_neg (by omega)]
  simp only [e, Nat.add_left_cancel_iff, Nat.reduceEqDiff, if_true, if_false, reduceIte]
theorem yAdd_8 {Z : Mm} {n : Nat} {x1 x2 x3 x4 x5 : Int32} (hn : n < 4) (hz : Z.1 1 (16 * n + 8) = 0) : (yAdd Z n x1 x2 x3 x4 x5).1 1 (16 * n + 8) = (-2000000005) := by
  have e : ∀ (M : Mm) (a b : Nat) (v : Int32), (wI M 1 b v).1 1 a = if a = b then v else M.1 1 a := fun M a b v => by
    show (if 1 = 1 ∧ a = b then v else M.1 1 a) = _
    simp only [true_and]
  unfold yAdd
  rw [e, if_neg (by omega)]
  simp only [e, Nat.add_left_cancel_iff, Nat.reduceEqDiff, if_true, if_false, reduceIte]
theorem yAdd_9 {Z : Mm} {n : Nat} {x1 x2 x3 x4 x5 : Int32} (hn : n < 4) (hz : Z.1 1 (16 * n + 9) = 0) : (yAdd Z n x1 x2 x3 x4 x5).1 1 (16 * n + 9) = (-2000000005) := by
  have e : ∀ (M : Mm) (a b : Nat) (v : Int32), (wI M 1 b v).1 1 a = if a = b then v else M.1 1 a := fun M a b v => by
    show (if 1 = 1 ∧ a = b then v else M.1 1 a) = _
    simp only [true_and]
  unfold yAdd
  rw [e, if_neg (by omega)]
  simp only [e, Nat.add_left_cancel_iff, Nat.reduceEqDiff, if_true, if_false, reduceIte]
theorem yAdd_10 {Z : Mm} {n : Nat} {x1 x2 x3 x4 x5 : Int32} (hn : n < 4) (hz : Z.1 1 (16 * n + 10) = 0) : (yAdd Z n x1 x2 x3 x4 x5).1 1 (16 * n + 10) = 0 := by
  have e : ∀ (M : Mm) (a b : Nat) (v : Int32), (wI M 1 b v).1 1 a = if a = b then v else M.1 1 a := fun M a b v => by
    show (if 1 = 1 ∧ a = b then v else M.1 1 a) = _
    simp only [true_and]
  unfold yAdd
  rw [e, if_neg (by omega)]
  simp only [e, Nat.add_left_cancel_iff, Nat.reduceEqDiff, if_true, if_false, reduceIte, hz]
theorem yAdd_11 {Z : Mm} {n : Nat} {x1 x2 x3 x4 x5 : Int32} (hn : n < 4) (hz : Z.1 1 (16 * n + 11) = 0) : (yAdd Z n x1 x2 x3 x4 x5).1 1 (16 * n + 11) = 0 := by
  have e : ∀ (M : Mm) (a b : Nat) (v : Int32), (wI M 1 b v).1 1 a = if a = b then v else M.1 1 a := fun M a b v => by
    show (if 1 = 1 ∧ a = b then v else M.1 1 a) = _
    simp only [true_and]
  unfold yAdd
  rw [e, if_neg (by omega)]
  simp only [e, Nat.add_left_cancel_iff, Nat.reduceEqDiff, if_true, if_false, reduceIte, hz]
theorem yAdd_12 {Z : Mm} {n : Nat} {x1 x2 x3 x4 x5 : Int32} (hn : n < 4) (hz : Z.1 1 (16 * n + 12) = 0) : (yAdd Z n x1 x2 x3 x4 x5).1 1 (16 * n + 12) = 0 := by
  have e : ∀ (M : Mm) (a b : Nat) (v : Int32), (wI M 1 b v).1 1 a = if a = b then v else M.1 1 a := fun M a b v => by
    show (if 1 = 1 ∧ a = b then v else M.1 1 a) = _
    simp only [true_and]
  unfold yAdd
  rw [e, if_neg (by omega)]
  simp only [e, Nat.add_left_cancel_iff, Nat.reduceEqDiff, if_true, if_false, reduceIte, hz]
theorem yAdd_13 {Z : Mm} {n : Nat} {x1 x2 x3 x4 x5 : Int32} (hn : n < 4) (hz : Z.1 1 (16 * n + 13) = 0) : (yAdd Z n x1 x2 x3 x4 x5).1 1 (16 * n + 13) = (-2000000005) := by
  have e : ∀ (M : Mm) (a b : Nat) (v : Int32), (wI M 1 b v).1 1 a = if a = b then v else M.1 1 a := fun M a b v => by
    show (if 1 = 1 ∧ a = b then v else M.1 1 a) = _
    simp only [true_and]
  unfold yAdd
  rw [e, if_neg (by omega)]
  simp only [e, Nat.add_left_cancel_iff, Nat.reduceEqDiff, if_true, if_false, reduceIte]
theorem yAdd_14 {Z : Mm} {n : Nat} {x1 x2 x3 x4 x5 : Int32} (hn : n < 4) (hz : Z.1 1 (16 * n + 14) = 0) : (yAdd Z n x1 x2 x3 x4 x5).1 1 (16 * n + 14) = 0 := by
  have e : ∀ (M : Mm) (a b : Nat) (v : Int32), (wI M 1 b v).1 1 a = if a = b then v else M.1 1 a := fun M a b v => by
    show (if 1 = 1 ∧ a = b then v else M.1 1 a) = _
    simp only [true_and]
  unfold yAdd
  rw [e, if_neg (by omega)]
  simp only [e, Nat.add_left_cancel_iff, Nat.reduceEqDiff, if_true, if_false, reduceIte, hz]
theorem yAdd_15 {Z : Mm} {n : Nat} {x1 x2 x3 x4 x5 : Int32} (hn : n < 4) (hz : Z.1 1 (16 * n + 15) = 0) : (yAdd Z n x1 x2 x3 x4 x5).1 1 (16 * n + 15) = 0 := by
  have e : ∀ (M : Mm) (a b : Nat) (v : Int32), (wI M 1 b v).1 1 a = if a = b then v else M.1 1 a := fun M a b v => by
    show (if 1 = 1 ∧ a = b then v else M.1 1 a) = _
    simp only [true_and]
  unfold yAdd
  rw [e, if_neg (by omega)]
  simp only [e, Nat.add_left_cancel_iff, Nat.reduceEqDiff, if_true, if_false, reduceIte, hz]
theorem s_addPath (x1 x2 x3 x4 x5 : Int32) {X Y : Mm} (h : Rel X Y) : ∃ r X' Y', f_X10_addPath x1 x2 x3 x4 x5 X = some (r, X') ∧ f_X11_addPath x1 x2 x3 x4 x5 Y = some (r, Y') ∧ Rel X' Y' := by
  obtain ⟨⟨n, hn, hx, hy, -⟩, -⟩ := h.pg
  unfold f_X10_addPath f_X11_addPath
  rcases in_c x1 50 2000 X Y with ⟨w1, w2, -⟩ | ⟨w1, w2, a1, a2⟩
  · rw [w1, w2]; exact ⟨_, _, _, rfl, rfl, h⟩
  rcases in_c x2 10 x1 X Y with ⟨w3, w4, -⟩ | ⟨w3, w4, b1, b2⟩
  · rw [w1, w2, w3, w4]; exact ⟨_, _, _, rfl, rfl, h⟩
  rcases in_c x3 1 1000 X Y with ⟨w5, w6, -⟩ | ⟨w5, w6, c1, c2⟩
  · rw [w1, w2, w3, w4, w5, w6]; exact ⟨_, _, _, rfl, rfl, h⟩
  rcases in_c x4 100 10000 X Y with ⟨w7, w8, -⟩ | ⟨w7, w8, d1, d2⟩
  · rw [w1, w2, w3, w4, w5, w6, w7, w8]; exact ⟨_, _, _, rfl, rfl, h⟩
  rcases in_c x5 0 5000 X Y with ⟨w9, w10, -⟩ | ⟨w9, w10, e1, e2⟩
  · rw [w1, w2, w3, w4, w5, w6, w7, w8, w9, w10]; exact ⟨_, _, _, rfl, rfl, h⟩
  simp only [w1, w2, w3, w4, w5, w6, w7, w8, w9, w10, ob1_s, if_neg one_0, lt1_s]
  rw [show gI X 0 1 = nI n from hx, show gI Y 1 64 = nI n from hy, if_neg (nI_pos (by omega))]
  rcases Nat.eq_or_lt_of_le hn with q | hn4
  · subst q
    rw [if_neg (show ¬ nI 4 < (4 : Int32) by decide), if_pos (show nI 4 = (4 : Int32) from rfl)]
    exact ⟨_, _, _, rfl, rfl, h⟩
  rw [if_pos (show nI n < (4 : Int32) from nI_lt hn4 (by decide)), if_neg (show ¬ nI n = (4 : Int32) from fun q => absurd ((nI_eq (by omega) (by decide)).mp (show nI n = nI 4 from q)) (by omega))]
  obtain ⟨X1, Y1, p1, p2, kx, ky, hr1⟩ := s_push h
  have hG := hr1.pg
  obtain ⟨n', hA⟩ := hG.1
  obtain rfl : n' = n := (nI_eq (by have := hA.1; omega) (by omega)).mp (hA.2.1.symm.trans ((congrFun ((kx 0 (by omega)).1 (by decide)) 1).trans hx))
  obtain ⟨-, hx1, hy1, hp, hq⟩ := hA
  obtain ⟨Z, ez, z1, z2, z3⟩ := y_fill (Y := Y1) hn4
  have zr : ∀ k, k < 16 → Z.1 1 (16 * n' + k) = 0 := fun k hk => by rw [z1, if_pos (by omega)]
  have g64 : gI Y1 1 64 = nI n' := hy1
  rw [p1, p2, ob1_s, ob1_s, chk_p (inb_n hn4 (by decide)), show rid 50 1 (ix (nI n')) = 2 + 2 * n' from (rid50 (a := 0) hn4).trans (Nat.zero_add _), g64, ez, ob1_s]
  unfold f_X3_begin
  rw [ylay0 hn4, ob1_s, ylay1 hn4, ob1_s, ylay2 hn4, ob1_s, ylay3 hn4, ob1_s, ylay4 hn4, ob1_s, ylay5 hn4, ob1_s, ylay6 hn4, ob1_s, ylay7 hn4, ob1_s, ylay8 hn4, ob1_s, ylay9 hn4, ob1_s, ylay13 hn4, ob1_s]
  simp only [lt1_s, ob1_s]
  have g64' : gI (wI (wI (wI (wI (wI (wI (wI (wI (wI (wI (wI Z 1 (16 * n' + 0) x1) 1 (16 * n' + 1) x2) 1 (16 * n' + 2) x3) 1 (16 * n' + 3) x4) 1 (16 * n' + 4) x5) 1 (16 * n' + 5) (-2000000005)) 1 (16 * n' + 6) (-2000000005)) 1 (16 * n' + 7) (-2000000005)) 1 (16 * n' + 8) (-2000000005)) 1 (16 * n' + 9) (-2000000005)) 1 (16 * n' + 13) (-2000000005)) 1 64 = nI n' := by
    have s : ∀ (M : Mm) (k : Nat) (v : Int32), k < 16 → gI (wI M 1 (16 * n' + k) v) 1 64 = gI M 1 64 := fun M k v hk => if_neg (fun q => by omega)
    rw [s _ _ _ (by decide), s _ _ _ (by decide), s _ _ _ (by decide), s _ _ _ (by decide), s _ _ _ (by decide), s _ _ _ (by decide), s _ _ _ (by decide), s _ _ _ (by decide), s _ _ _ (by decide), s _ _ _ (by decide), s _ _ _ (by decide)]
    show Z.1 1 64 = _
    rw [z1, if_neg (by omega)]
    exact hy1
  rw [g64', nI_1]
  refine ⟨nI n', xAdd X1 n' x1 x2 x3 x4 x5, yAdd Z n' x1 x2 x3 x4 x5, rfl, rfl, ?_⟩
  have xo : ∀ k, k ≠ 0 → k ≠ 2 + 2 * n' → (xAdd X1 n' x1 x2 x3 x4 x5).1 k = X1.1 k := fun k h0 h2 => by
    unfold xAdd
    rw [wI_o h0, wI_o h2, wI_o h2, wI_o h2, wI_o h2, wI_o h2]
  have x0 : ∀ j, j ≠ 1 → (xAdd X1 n' x1 x2 x3 x4 x5).1 0 j = X1.1 0 j := fun j hj => by
    unfold xAdd
    rw [wI_k hj, wI_o (by omega), wI_o (by omega), wI_o (by omega), wI_o (by omega), wI_o (by omega)]
  have xe : ∀ (M : Mm) (a b : Nat) (v : Int32), (wI M (2 + 2 * n') b v).1 (2 + 2 * n') a = if a = b then v else M.1 (2 + 2 * n') a := fun M a b v => by
    show (if 2 + 2 * n' = 2 + 2 * n' ∧ a = b then v else M.1 (2 + 2 * n') a) = _
    simp only [true_and]
  have xp : ∀ j, (xAdd X1 n' x1 x2 x3 x4 x5).1 (2 + 2 * n') j = if j = 4 then x5 else if j = 3 then x4 else if j = 2 then x3 else if j = 1 then x2 else if j = 0 then x1 else X1.1 (2 + 2 * n') j := fun j => by
    unfold xAdd
    rw [wI_o (by omega), xe, xe, xe, xe, xe]
  have y64 : (yAdd Z n' x1 x2 x3 x4 x5).1 1 64 = nI (n' + 1) := wI_e
  have yo : ∀ q, q < 4 → q ≠ n' → ∀ k, k < 16 → (yAdd Z n' x1 x2 x3 x4 x5).1 1 (16 * q + k) = Y1.1 1 (16 * q + k) := fun q hq hqn k hk => by
    rw [yAdd_o (by omega) (by omega), z1, if_neg (by omega)]
  have eJ : (yAdd Z n' x1 x2 x3 x4 x5).2 2 = Y1.2 2 := congrFun z3 2
  refine Rel.of (eJ ▸ PG_pa hG x0 (fun o h1 h2 => xo o (by omega) (by omega)) (fun k h1 h2 => ?_) ⟨n' + 1, by omega, ?_, y64, fun i hi => ?_, fun i hi hi4 => ?_⟩) (Rest_pages (X := X1) (Y := Y1) (fun k hk => ⟨xo k (by omega) (by omega), rfl⟩) (fun a ha => funext fun j => ?_) (fun a ha => ?_) hr1.rest)
  · rw [yAdd_o (by omega) (by omega), z1, if_neg (by omega)]
  · unfold xAdd
    rw [wI_e]
  · rcases Nat.eq_or_lt_of_le (show i ≤ n' by omega) with q | q
    · subst q
      obtain ⟨f5, f8, f10, f11, f12, f13, f14, f0⟩ := hq i (Nat.le_refl _) hn4
      have v : ∀ j, 5 ≤ j → (xAdd X1 i x1 x2 x3 x4 x5).1 (2 + 2 * i) j = X1.1 (2 + 2 * i) j := fun j hj => by
        rw [xp, if_neg (by omega), if_neg (by omega), if_neg (by omega), if_neg (by omega), if_neg (by omega)]
      rw [xo (3 + 2 * i) (by omega) (by omega)]
      unfold PL
      simp only [v 5 (by decide), v 6 (by decide), v 7 (by decide), v 8 (by decide), v 9 (by decide), v 10 (by decide), v 11 (by decide), v 12 (by decide), v 13 (by decide), v 14 (by decide), yAdd_0 hn4 (zr 0 (by decide)), yAdd_1 hn4 (zr 1 (by decide)), yAdd_2 hn4 (zr 2 (by decide)), yAdd_3 hn4 (zr 3 (by decide)), yAdd_4 hn4 (zr 4 (by decide)), yAdd_5 hn4 (zr 5 (by decide)), yAdd_6 hn4 (zr 6 (by decide)), yAdd_7 hn4 (zr 7 (by decide)), yAdd_8 hn4 (zr 8 (by decide)), yAdd_9 hn4 (zr 9 (by decide)), yAdd_10 hn4 (zr 10 (by decide)), yAdd_11 hn4 (zr 11 (by decide)), yAdd_12 hn4 (zr 12 (by decide)), yAdd_13 hn4 (zr 13 (by decide)), yAdd_14 hn4 (zr 14 (by decide)), yAdd_15 hn4 (zr 15 (by decide))]
      rw [xp 0, xp 1, xp 2, xp 3, xp 4]
      exact ⟨⟨⟨a1, a2, b1, b2⟩, ⟨c1, c2⟩, ⟨d1, d2⟩, e1, e2⟩, ⟨rfl, rfl, rfl, rfl, rfl⟩, Or.inl ⟨f5, by trivial, by trivial⟩, Or.inl ⟨f8, by trivial⟩, ⟨f10.symm, f11.symm, f12.symm, f13.symm, f14.symm⟩, Or.inl ⟨f0, by trivial⟩⟩
    · rw [xo _ (by omega) (by omega), xo _ (by omega) (by omega)]
      exact PL_congr (fun _ _ => rfl) (fun _ _ => rfl) (fun k hk => yo i (by omega) (by omega) k hk) (hp i q)
  · rw [xo _ (by omega) (by omega), xo _ (by omega) (by omega)]
    exact hq i (by omega) hi4
  · rw [yAdd_o (Or.inl ha) (Or.inl ha), z2 a ha]
  · show Z.2 a = _
    rw [z3]
theorem s_total (x1 : Int32) {X Y : Mm} (h : Rel X Y) : ∃ r, f_X10_total x1 X = some r ∧ f_X11_total x1 Y = some r := by
  have hG := h.pg
  obtain ⟨⟨n, hA⟩, ⟨m, hF⟩, ⟨⟨g0, g1, g2, g3, g4⟩, -⟩, ⟨r, hR⟩, ⟨hsw, hz⟩, ⟨hcl, hlo⟩, -⟩ := id hG
  obtain ⟨-, ⟨c, -, hcx, hcy, -⟩, -, ⟨t, -, tx, ty, -⟩⟩ := id h
  unfold f_X10_total f_X11_total
  by_cases c0 : x1 = 0
  · subst c0
    exact ⟨X.1 0 1, rfl, congrArg some (hA.2.2.1.trans hA.2.1.symm)⟩
  by_cases c1 : x1 = 1
  · subst c1
    exact ⟨X.1 10 2, rfl, congrArg some (hF.2.2.1.trans hF.2.1.symm)⟩
  by_cases c2 : x1 = 2
  · subst c2
    obtain ⟨v, v1, v2⟩ := s_told4 hA
    rw [v1, v2]
    exact ⟨v, rfl, rfl⟩
  by_cases c3 : x1 = 3
  · subst c3
    exact ⟨X.1 0 6, rfl, congrArg some hcl⟩
  by_cases c4 : x1 = 4
  · subst c4
    exact ⟨X.1 0 7, rfl, congrArg some hlo⟩
  by_cases c5 : x1 = 5
  · subst c5
    exact ⟨X.1 14 1, rfl, congrArg some (hR.2.2.1.trans hR.2.1.symm)⟩
  by_cases c6 : x1 = 6
  · subst c6
    refine ⟨X.1 0 4, ?_, congrArg some hsw⟩
    have e : f_X10_asNumber (gI X 0 4) X = some (X.1 0 4) := by
      unfold f_X10_asNumber
      rcases hz with z | z
      · rw [show gI X 0 4 = 0 from z, z]; rfl
      · rw [show gI X 0 4 = 1 from z, z]; rfl
    rw [e]
    rfl
  by_cases c7 : x1 = 7
  · subst c7
    obtain ⟨v, v1, v2⟩ := s_fail4 hA
    rw [v1, v2]
    exact ⟨v, rfl, rfl⟩
  by_cases c8 : x1 = 8
  · subst c8
    exact ⟨gI X 225 1, rfl, congrArg some (hcy.trans hcx.symm)⟩
  by_cases c9 : x1 = 9
  · subst c9
    exact ⟨gI X 230 1, rfl, congrArg some (ty.trans tx.symm)⟩
  rw [if_neg c0, if_neg c1, if_neg c2, if_neg c3, if_neg c4, if_neg c5, if_neg c6, if_neg c7, if_neg c8, if_neg c9, if_neg c0, if_neg c1, if_neg c2, if_neg c3, if_neg c4, if_neg c5, if_neg c6, if_neg c7, if_neg c8, if_neg c9]
  rcases in_c x1 10 14 X Y with ⟨w1, w2, -⟩ | ⟨w1, w2, lo, hh⟩
  · rw [w1, w2]; exact ⟨_, rfl, rfl⟩
  rw [w1, w2]
  obtain ⟨j, hj, rfl⟩ := nI_of2 (n := 14) (M := 14) rfl (fun q => by rw [i_le] at lo; rw [i_lt] at q; have e1 : (10 : Int32).toInt = 10 := rfl; have e2 : (0 : Int32).toInt = 0 := rfl; omega) hh
  have hl : 10 ≤ j := by
    rw [i_le, nI_toInt (by omega)] at lo
    have e1 : (10 : Int32).toInt = 10 := rfl
    omega
  have : j = 10 ∨ j = 11 ∨ j = 12 ∨ j = 13 ∨ j = 14 := by omega
  rcases this with rfl | rfl | rfl | rfl | rfl
  · exact ⟨X.1 13 0, rfl, congrArg some g0⟩
  · exact ⟨X.1 13 1, rfl, congrArg some g1⟩
  · exact ⟨X.1 13 2, rfl, congrArg some g2⟩
  · exact ⟨X.1 13 3, rfl, congrArg some g3⟩
  · exact ⟨X.1 13 4, rfl, congrArg some g4⟩

/-! JUDGING, 1: the shifts -/
theorem neg_0 (x : Int32) : (0 : Int32) - x = -x := Int32.zero_sub x
/-- the number of periods in a difference -/
def rnd (x p : Int32) : Int32 :=
  if 0 ≤ x then (if (jabs x - jabs x / p * p) * 2 ≤ p then jabs x / p else jabs x / p + 1) else -(if (jabs x - jabs x / p * p) * 2 ≤ p then jabs x / p else jabs x / p + 1)
theorem x_rnd {x p : Int32} {M : Mm} (hp : 0 < p) : f_X10_wholePeriods x p M = some (rnd x p) := by
  have n0 : ¬ p = 0 := fun q => by subst q; revert hp; decide
  unfold f_X10_wholePeriods rnd
  rw [if_pos hp, lt1_s, chk_p (show decide _ = true from decide_eq_true n0), lt1_s, chk_p (show decide _ = true from decide_eq_true n0)]
  by_cases c : (jabs x - jabs x / p * p) * 2 ≤ p
  · rw [if_pos c, if_pos c, ob1_s]
    by_cases d : 0 ≤ x
    · rw [if_pos d, if_pos d]
    · rw [if_neg d, if_neg d]
  · rw [if_neg c, if_neg c, lt1_s, ob1_s]
    by_cases d : 0 ≤ x
    · rw [if_pos d, if_pos d]
    · rw [if_neg d, if_neg d]
theorem y_rnd {x p : Int32} {M : Mm} (hp : 0 < p) : f_X11_rounded x p M = some (rnd x p) := by
  have n0 : ¬ p = 0 := fun q => by subst q; revert hp; decide
  have e : (if (0 : Int32) ≤ x then some x else some (-x)) = some (jabs x) := by
    unfold jabs
    by_cases d : 0 ≤ x
    · rw [if_pos d, if_pos d]
    · rw [if_neg d, if_neg d, neg_0]
  unfold f_X11_rounded rnd
  rw [e, ob1_s, chk_p (show decide _ = true from decide_eq_true n0), chk_p (show decide _ = true from decide_eq_true n0), Int32.mul_comm 2]
  by_cases c : (jabs x - jabs x / p * p) * 2 ≤ p
  · rw [if_pos c, if_pos c, ob1_s, lt1_s, Int32.add_zero]
    by_cases d : 0 ≤ x
    · rw [if_pos d, if_pos d]
    · rw [if_neg d, if_neg d]
  · rw [if_neg c, if_neg c, ob1_s, lt1_s]
    by_cases d : 0 ≤ x
    · rw [if_pos d, if_pos d]
    · rw [if_neg d, if_neg d]
/-- what is asked of a path: has it a vote; its shift, forward (w = 0) or backward (w = 1); what becomes of it at first -/
def hvI (X : Mm) (i : Nat) : Int32 := if X.1 (3 + 2 * i) 0 = 0 then 0 else if X.1 (3 + 2 * i) 3 < X.1 13 0 then 0 else if X.1 (2 + 2 * i) 5 = 0 then 0 else 1
def sh0 (X : Mm) (w i : Nat) : Int32 := if hvI X i = 0 then 0 else rnd (X.1 (3 + 2 * i) (1 + w) - X.1 (2 + 2 * i) (6 + w)) (X.1 (2 + 2 * i) 3)
def oc0 (X : Mm) (i : Nat) : Int32 := if X.1 (3 + 2 * i) 0 = 0 then 0 else if X.1 13 0 ≤ X.1 (3 + 2 * i) 3 then 4 else 1
theorem hvI_or (X : Mm) (i : Nat) : (hvI X i = 0) ∨ (hvI X i = 1 ∧ ¬ X.1 (3 + 2 * i) 0 = 0 ∧ ¬ X.1 (3 + 2 * i) 3 < X.1 13 0 ∧ ¬ X.1 (2 + 2 * i) 5 = 0) := by
  unfold hvI
  by_cases c : X.1 (3 + 2 * i) 0 = 0
  · rw [if_pos c]; exact Or.inl rfl
  · rw [if_neg c]
    by_cases d : X.1 (3 + 2 * i) 3 < X.1 13 0
    · rw [if_pos d]; exact Or.inl rfl
    · rw [if_neg d]
      by_cases e : X.1 (2 + 2 * i) 5 = 0
      · rw [if_pos e]; exact Or.inl rfl
      · rw [if_neg e]; exact Or.inr ⟨rfl, c, d, e⟩
theorem hvI_bz (X : Mm) (i : Nat) : bz (hvI X i) = true := by
  rcases hvI_or X i with q | ⟨q, -⟩ <;> rw [q] <;> rfl
/-- the pictures of paths that the judgement rests on: it only reads them -/
def Pth (X : Mm) (n : Nat) : Prop := n ≤ 4 ∧ (∀ i, i < n → 100 ≤ X.1 (2 + 2 * i) 3 ∧ X.1 (2 + 2 * i) 3 ≤ 10000) ∧ ∀ i, n ≤ i → i < 4 → hvI X i = 0 ∧ oc0 X i = 0
theorem PA.pth {X : Mm} {n : Nat} {P : Nat → Int32} (h : PA n X.1 P) : Pth X n := by
  obtain ⟨h1, -, -, h4, h5⟩ := h
  refine ⟨h1, fun i hi => (h4 i hi).1.2.2.1, fun i hi hi4 => ?_⟩
  have q := (h5 i hi hi4).2.2.2.2.2.2.2
  exact ⟨if_pos q, if_pos q⟩
theorem pos_of {x : Int32} (h : 100 ≤ x) : 0 < x := by
  rw [i_le] at h
  rw [i_lt]
  have e1 : (100 : Int32).toInt = 100 := rfl
  have e2 : (0 : Int32).toInt = 0 := rfl
  omega
theorem x_shifts {X : Mm} {n : Nat} (h : Pth X n) : ∃ X1, f_X2_findShifts X = some X1 ∧ (∀ j, j < 4 → X1.1 233 j = hvI X j ∧ X1.1 234 j = sh0 X 0 j ∧ X1.1 235 j = sh0 X 1 j) ∧ (∀ k, k ≠ 233 → k ≠ 234 → k ≠ 235 → X1.1 k = X.1 k) ∧ X1.2 = X.2 := by
  obtain ⟨hn, hp, hq⟩ := h
  refine lpUp (L := f_X2_findShifts_L2) 4 (fun i M => (∀ j, j < i → M.1 233 j = hvI X j ∧ M.1 234 j = sh0 X 0 j ∧ M.1 235 j = sh0 X 1 j) ∧ (∀ k, k ≠ 233 → k ≠ 234 → k ≠ 235 → M.1 k = X.1 k) ∧ M.2 = X.2) _ (fun f M h => ⟨M, by rw [f_X2_findShifts_L2, if_pos (show (4 : Int32) ≤ nI 4 by decide)], h⟩) (fun f i M hi h => ?_) (by decide) ⟨fun j hj => absurd hj (by omega), fun _ _ _ _ => rfl, rfl⟩
  obtain ⟨hr, ho, hj⟩ := h
  have eS : ∀ j, gI M (3 + 2 * i) j = X.1 (3 + 2 * i) j := fun j => congrFun (ho _ (by omega) (by omega) (by omega)) j
  have eA : ∀ j, gI M (2 + 2 * i) j = X.1 (2 + 2 * i) j := fun j => congrFun (ho _ (by omega) (by omega) (by omega)) j
  have e13 : gI M 13 0 = X.1 13 0 := congrFun (ho 13 (by decide) (by decide) (by decide)) 0
  have e3 : 2 + 2 * i + 1 = 3 + 2 * i := by omega
  have ey : (if X.1 (3 + 2 * i) 0 = (0 : Int32) then some (0 : Int32) else (if X.1 (3 + 2 * i) 3 < X.1 13 0 then some (0 : Int32) else (if X.1 (2 + 2 * i) 5 = (0 : Int32) then some (0 : Int32) else some (1 : Int32)))) = some (hvI X i) := by
    unfold hvI
    by_cases c : X.1 (3 + 2 * i) 0 = 0
    · rw [if_pos c, if_pos c]
    · rw [if_neg c, if_neg c]
      by_cases d : X.1 (3 + 2 * i) 3 < X.1 13 0
      · rw [if_pos d, if_pos d]
      · rw [if_neg d, if_neg d]
        by_cases e : X.1 (2 + 2 * i) 5 = 0
        · rw [if_pos e, if_pos e]
        · rw [if_neg e, if_neg e]
  have es : ∀ (N : Mm) (w : Nat), (if hvI X i = (0 : Int32) then some (0 : Int32) else (ob1 (f_X10_wholePeriods (X.1 (3 + 2 * i) (1 + w) - X.1 (2 + 2 * i) (6 + w)) (X.1 (2 + 2 * i) 3) N) fun r_6 => some r_6)) = some (sh0 X w i) := fun N w => by
    unfold sh0
    by_cases c : hvI X i = 0
    · rw [if_pos c, if_pos c]
    · have hin : i < n := by
        rcases Nat.lt_or_ge i n with q | q
        · exact q
        · exact absurd (hq i q hi).1 c
      rw [if_neg c, if_neg c, x_rnd (pos_of (hp i hin).1)]
      rfl
  rw [f_X2_findShifts_L2, if_neg (show ¬ (4 : Int32) ≤ nI i from nI_ge hi (by decide))]
  simp only [chk_p (inb_n (c := i) (N := 4) hi (by decide)), show rid 50 1 i = 2 + 2 * i from rfl, e3, eS, eA, e13, ey, ob1_s, lt1_s, chk_p (hvI_bz X i), ix_n (n := i) (by omega)]
  have k1 : gI (wI M 233 i (hvI X i)) 233 i = hvI X i := wI_e
  have k2 : ∀ j, gI (wI M 233 i (hvI X i)) (3 + 2 * i) j = X.1 (3 + 2 * i) j := fun j => (congrFun (wI_o (by omega)) j).trans (eS j)
  have k3 : ∀ j, gI (wI M 233 i (hvI X i)) (2 + 2 * i) j = X.1 (2 + 2 * i) j := fun j => (congrFun (wI_o (by omega)) j).trans (eA j)
  have s0 := es (wI M 233 i (hvI X i)) 0
  have s1 := es (wI (wI M 233 i (hvI X i)) 234 i (sh0 X 0 i)) 1
  have k4 : gI (wI (wI M 233 i (hvI X i)) 234 i (sh0 X 0 i)) 233 i = hvI X i := (congrFun (wI_o (by decide)) i).trans wI_e
  have k5 : ∀ j, gI (wI (wI M 233 i (hvI X i)) 234 i (sh0 X 0 i)) (3 + 2 * i) j = X.1 (3 + 2 * i) j := fun j => (congrFun ((wI_o (by omega)).trans (wI_o (by omega))) j).trans (eS j)
  have k6 : ∀ j, gI (wI (wI M 233 i (hvI X i)) 234 i (sh0 X 0 i)) (2 + 2 * i) j = X.1 (2 + 2 * i) j := fun j => (congrFun ((wI_o (by omega)).trans (wI_o (by omega))) j).trans (eA j)
  rw [k1, k2, k3, k3, show (if hvI X i = (0 : Int32) then some (0 : Int32) else (ob1 (f_X10_wholePeriods (X.1 (3 + 2 * i) 1 - X.1 (2 + 2 * i) 6) (X.1 (2 + 2 * i) 3) (wI M 233 i (hvI X i))) fun r_6 => some r_6)) = some (sh0 X 0 i) from s0, ob1_s, k4, k5, k6, k6, show (if hvI X i = (0 : Int32) then some (0 : Int32) else (ob1 (f_X10_wholePeriods (X.1 (3 + 2 * i) 2 - X.1 (2 + 2 * i) 7) (X.1 (2 + 2 * i) 3) (wI (wI M 233 i (hvI X i)) 234 i (sh0 X 0 i))) fun r_6 => some r_6)) = some (sh0 X 1 i) from s1, ob1_s, nI_1]
  refine Or.inr ⟨wI (wI (wI M 233 i (hvI X i)) 234 i (sh0 X 0 i)) 235 i (sh0 X 1 i), ⟨fun j hj' => ⟨?_, ?_, ?_⟩, fun k h1 h2 h3 => ?_, hj⟩, rfl⟩
  · rw [wI_o (by decide), wI_o (by decide)]
    by_cases c : j = i
    · subst c; exact wI_e
    · rw [wI_k c]; exact (hr j (by omega)).1
  · rw [wI_o (by decide)]
    by_cases c : j = i
    · subst c; exact wI_e
    · rw [wI_k c, wI_o (by decide)]; exact (hr j (by omega)).2.1
  · by_cases c : j = i
    · subst c; exact wI_e
    · rw [wI_k c, wI_o (by decide), wI_o (by decide)]; exact (hr j (by omega)).2.2
  · rw [wI_o h3, wI_o h2, wI_o h1, ho k h1 h2 h3]
/-- the reference's page, in the class's words, for the judgement -/
def Lk (X Y : Mm) (n : Nat) : Prop := (∀ i, i < n → PL (X.1 (2 + 2 * i)) (X.1 (3 + 2 * i)) (fun k => Y.1 1 (16 * i + k))) ∧ Y.1 1 64 = nI n ∧ Y.1 1 78 = X.1 13 0 ∧ Y.1 1 80 = X.1 13 2
theorem Lk.same {X Y Y' : Mm} {n : Nat} (h : Lk X Y n) (e : Y'.1 1 = Y.1 1) : Lk X Y' n := by
  unfold Lk
  rw [e]
  exact h
theorem yofW {i w : Nat} (hi : i < 4) (hw : w < 2) {Y : Mm} : f_X11_of (nI i) ((13 : Int32) + nI w) Y = some (Y.1 1 (16 * i + (13 + w))) ∧ f_X11_of (nI i) ((5 : Int32) + nI w) Y = some (Y.1 1 (16 * i + (5 + w))) := by
  constructor
  · rw [show (13 : Int32) + nI w = nI (13 + w) from nI_add 13 w]
    exact y_of hi (by omega)
  · rw [show (5 : Int32) + nI w = nI (5 + w) from nI_add 5 w]
    exact y_of hi (by omega)
theorem y_shift1 {X Y : Mm} {n i : Nat} (h : Lk X Y n) (hn : n ≤ 4) (hi : i < n) (hv : Y.1 11 i = hvI X i) : ∃ Y1, f_X11_takeShifts_L91 (nI i) 1000 (0 : Int32) Y = some Y1 ∧ (∀ w, w < 2 → Y1.1 10 (2 * i + w) = sh0 X w i) ∧ (∀ j, j < 2 * i ∨ 2 * i + 2 ≤ j → Y1.1 10 j = Y.1 10 j) ∧ (∀ k, k ≠ 10 → Y1.1 k = Y.1 k) ∧ Y1.2 = Y.2 := by
  have i4 : i < 4 := by omega
  refine lpUp (L := fun f x s => f_X11_takeShifts_L91 (nI i) f x s) 2 (fun w M => (∀ v, v < w → M.1 10 (2 * i + v) = sh0 X v i) ∧ (∀ j, j < 2 * i ∨ 2 * i + 2 ≤ j → M.1 10 j = Y.1 10 j) ∧ (∀ k, k ≠ 10 → M.1 k = Y.1 k) ∧ M.2 = Y.2) _ (fun f M h => ⟨M, by rw [f_X11_takeShifts_L91, if_pos (show (2 : Int32) ≤ nI 2 by decide)], h⟩) (fun f w M hw hM => ?_) (by decide) ⟨fun v hv => absurd hv (by omega), fun _ _ => rfl, fun _ _ => rfl, rfl⟩
  obtain ⟨hr, hr2, ho, hj⟩ := hM
  have hLk := h.same (Y' := M) (ho 1 (by decide))
  have hL := hLk.1 i hi
  have eh : gI M 11 i = hvI X i := (congrFun (ho 11 (by decide)) i).trans hv
  have ev : (2 : Int32) * nI i + nI w = nI (2 * i + w) := (congrArg (· + nI w) (nI_mul 2 i)).trans (nI_add _ _)
  have e3 : M.1 1 (16 * i + 3) = X.1 (2 + 2 * i) 3 := hL.2.1.2.2.2.1
  have es : (if hvI X i = (0 : Int32) then some (0 : Int32) else (ob1 (f_X11_of (nI i) ((13 : Int32) + nI w) M) fun r_14 => ob1 (f_X11_of (nI i) ((5 : Int32) + nI w) M) fun r_15 => ob1 (f_X11_of (nI i) (3 : Int32) M) fun r_16 => ob1 (f_X11_rounded (r_14 - r_15) r_16 M) fun r_17 => some r_17)) = some (sh0 X w i) := by
    unfold sh0
    by_cases c : hvI X i = 0
    · rw [if_pos c, if_pos c]
    · obtain ⟨-, c1, c2, c3⟩ : hvI X i = 1 ∧ ¬ X.1 (3 + 2 * i) 0 = 0 ∧ ¬ X.1 (3 + 2 * i) 3 < X.1 13 0 ∧ ¬ X.1 (2 + 2 * i) 5 = 0 := by
        rcases hvI_or X i with q | q
        · exact absurd q c
        · exact q
      have p1 : M.1 1 (16 * i + (13 + w)) = X.1 (3 + 2 * i) (1 + w) := by
        rcases hL.sho with ⟨q, -⟩ | ⟨-, -, -, q1, q2, -⟩
        · exact absurd q c1
        · have : w = 0 ∨ w = 1 := by omega
          rcases this with rfl | rfl
          · exact q1
          · exact q2
      have p2 : M.1 1 (16 * i + (5 + w)) = X.1 (2 + 2 * i) (6 + w) := by
        rcases hL.ref with ⟨q, -⟩ | ⟨-, -, q1, q2, -⟩
        · exact absurd q c3
        · have : w = 0 ∨ w = 1 := by omega
          rcases this with rfl | rfl
          · exact q1
          · exact q2
      rw [if_neg c, if_neg c, (yofW i4 hw).1, ob1_s, (yofW i4 hw).2, ob1_s, yof3 i4, ob1_s, p1, p2, e3, y_rnd (pos_of hL.1.2.2.1.1)]
      rfl
  rw [f_X11_takeShifts_L91, if_neg (show ¬ (2 : Int32) ≤ nI w from nI_ge hw (by decide)), chk_p (inb_n i4 (by decide)), ix_n (by omega), eh, es, ob1_s, ev, chk_p (inb_n (by omega) (by decide)), ix_n (by omega), lt1_s, lt1_s, nI_1]
  refine Or.inr ⟨wI M 10 (2 * i + w) (sh0 X w i), ⟨fun v hv' => ?_, fun j hj' => ?_, fun k hk => ?_, hj⟩, rfl⟩
  · by_cases c : v = w
    · subst c; exact wI_e
    · rw [wI_k (by omega)]; exact hr v (by omega)
  · rw [wI_k (by omega)]; exact hr2 j hj'
  · rw [wI_o hk]; exact ho k hk
theorem y_shifts {X Y : Mm} {n : Nat} (h : Lk X Y n) (hn : n ≤ 4) : ∃ Y1, f_X11_takeShifts Y = some Y1 ∧ (∀ j, j < n → Y1.1 9 j = oc0 X j ∧ Y1.1 11 j = hvI X j ∧ ∀ w, w < 2 → Y1.1 10 (2 * j + w) = sh0 X w j) ∧ (∀ k, k ≠ 9 → k ≠ 10 → k ≠ 11 → Y1.1 k = Y.1 k) ∧ Y1.2 = Y.2 := by
  refine lpUp (L := f_X11_takeShifts_L2) n (fun i M => (∀ j, j < i → M.1 9 j = oc0 X j ∧ M.1 11 j = hvI X j ∧ ∀ w, w < 2 → M.1 10 (2 * j + w) = sh0 X w j) ∧ (∀ k, k ≠ 9 → k ≠ 10 → k ≠ 11 → M.1 k = Y.1 k) ∧ M.2 = Y.2) _ (fun f M hM => ⟨M, by rw [f_X11_takeShifts_L2, if_pos (by rw [show gI M 1 64 = nI n from (congrFun (hM.2.1 1 (by decide) (by decide) (by decide)) 64).trans h.2.1]; exact nI_le (Nat.le_refl _) (by omega))], hM⟩) (fun f i M hi hM => ?_) (by omega) ⟨fun j hj => absurd hj (by omega), fun _ _ _ _ => rfl, rfl⟩
  obtain ⟨hr, ho, hj⟩ := hM
  have i4 : i < 4 := by omega
  have hLk := h.same (Y' := M) (ho 1 (by decide) (by decide) (by decide))
  have hL := hLk.1 i hi
  have e78 : gI M 1 78 = X.1 13 0 := hLk.2.2.1
  have ey : (if M.1 1 (16 * i + 13) = (-2000000005 : Int32) then some (0 : Int32) else (ob1 (f_X11_of (nI i) (15 : Int32) M) fun r_5 => if gI M 1 78 ≤ r_5 then some (4 : Int32) else some (1 : Int32))) = some (oc0 X i) := by
    rw [yof15 i4, ob1_s, e78]
    unfold oc0
    rcases hL.sho with ⟨q1, q2⟩ | ⟨q1, -, q2, -, -, q3, -⟩
    · rw [if_pos q1, if_pos q2]
    · have q3' : M.1 1 (16 * i + 15) = X.1 (3 + 2 * i) 3 := q3
      rw [if_neg q1, if_neg q2, q3']
      by_cases c : X.1 13 0 ≤ X.1 (3 + 2 * i) 3
      · rw [if_pos c, if_pos c]
      · rw [if_neg c, if_neg c]
  have ez : (if oc0 X i = (4 : Int32) then (ob1 (f_X11_of (nI i) (5 : Int32) (wI M 9 i (oc0 X i))) fun r_8 => if r_8 = (-2000000005 : Int32) then some (0 : Int32) else some (1 : Int32)) else some (0 : Int32)) = some (hvI X i) := by
    rw [yof5 i4, ob1_s, show (wI M 9 i (oc0 X i)).1 1 = M.1 1 from wI_o (by decide)]
    unfold oc0 hvI
    by_cases c : X.1 (3 + 2 * i) 0 = 0
    · rw [if_pos c, if_pos c, if_neg (by decide)]
    · rw [if_neg c, if_neg c]
      by_cases d : X.1 13 0 ≤ X.1 (3 + 2 * i) 3
      · rw [if_pos d, if_pos rfl, if_neg (show ¬ X.1 (3 + 2 * i) 3 < X.1 13 0 from fun q => by rw [i_lt] at q; rw [i_le] at d; omega)]
        rcases hL.ref with ⟨q1, q2, -⟩ | ⟨q1, q2, -⟩
        · rw [if_pos q1, if_pos q2]
        · rw [if_neg q1, if_neg q2]
      · rw [if_neg d, if_neg (by decide), if_pos (i_nle d)]
  rw [f_X11_takeShifts_L2, if_neg (by rw [show gI M 1 64 = nI n from hLk.2.1]; exact nI_ge hi (by omega)), yof13 i4, ob1_s, ey, ob1_s]
  simp only [chk_p (inb_n (c := i) (N := 4) i4 (by decide)), ix_n (n := i) (by omega), lt1_s, show gI (wI M 9 i (oc0 X i)) 9 i = oc0 X i from wI_e, ez, ob1_s, chk_p (hvI_bz X i)]
  obtain ⟨N, e1, n1, n2, n3, n4⟩ := y_shift1 (X := X) (Y := wI (wI M 9 i (oc0 X i)) 11 i (hvI X i)) (n := n) (i := i) (hLk.same ((wI_o (by decide)).trans (wI_o (by decide)))) hn hi wI_e
  rw [e1, ob1_s, nI_1]
  refine Or.inr ⟨N, ⟨fun j hj' => ⟨?_, ?_, fun w hw => ?_⟩, fun k h1 h2 h3 => ?_, ?_⟩, rfl⟩
  · rw [n3 9 (by decide), wI_o (by decide)]
    by_cases c : j = i
    · subst c; exact wI_e
    · rw [wI_k c]; exact (hr j (by omega)).1
  · rw [n3 11 (by decide)]
    by_cases c : j = i
    · subst c; exact wI_e
    · rw [wI_k c, wI_o (by decide)]; exact (hr j (by omega)).2.1
  · by_cases c : j = i
    · subst c; exact n1 w hw
    · rw [n2 _ (by omega), wI_o (by decide), wI_o (by decide)]; exact (hr j (by omega)).2.2 w hw
  · rw [n3 k h2, wI_o h3, wI_o h1, ho k h1 h2 h3]
  · rw [n4]; exact hj

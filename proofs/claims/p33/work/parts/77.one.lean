/-! CLOSING, 3: one path, both sides -/
theorem gI_1 {M : Mm} {a k : Nat} : gI M a k = M.1 a k := rfl
def st8 (M : Mm) (i : Nat) : Mm := wI (wI (wI (wI M (2 + 2 * i) 10 (gI M 236 i)) (2 + 2 * i) 11 (gI M 237 i)) (2 + 2 * i) 13 (gI M (2 + 2 * i) 13 + if gI M 236 i = 3 then 1 else 0)) (2 + 2 * i) 14 (gI M (2 + 2 * i) 14 + if gI M 236 i = 2 then 1 else 0)
def st13 (M : Mm) (i : Nat) (t0 t1 : Int32) : Mm := wI (wI (wI (wI (st8 M i) (2 + 2 * i) 12 0) (2 + 2 * i) 5 1) (2 + 2 * i) 6 t0) (2 + 2 * i) 7 t1
theorem x_setPath2 {M : Mm} {i : Nat} {t0 t1 : Int32} (hi : i < 4) (hc : ∀ Z, f_X10_contains (gI M 232 6) (nI i) Z = some (if gI M 236 i < 3 then 0 else 1)) (et0 : gI M (2 + 2 * i + 1) 1 - gI M 234 i * gI M (2 + 2 * i) 3 = t0) (et1 : gI M (2 + 2 * i + 1) 2 - gI M 235 i * gI M (2 + 2 * i) 3 = t1) : f_X2_settlePath (2 + 2 * i) (nI i) M =
    if gI M 236 i < 3 then some (wI (st8 M i) (2 + 2 * i) 12 (gI M (2 + 2 * i) 12 + 1)) else
    if gI M 232 9 = 0 then some (st13 M i t0 t1) else
    ob1 (f_X10_limited (Int32.toInt64 (gI M 237 i) * 1000 / Int32.toInt64 (gI M 232 9)) 5000 (st13 M i t0 t1)) fun r => some (wI (wI (st13 M i t0 t1) (2 + 2 * i) 8 1) (2 + 2 * i) 9 r) := by
  subst et0
  subst et1
  exact x_setPath hi hc
def FrP (i : Nat) (M N M' N' : Mm) : Prop := (∀ k, k ≠ 2 + 2 * i → M'.1 k = M.1 k) ∧ M'.2 = M.2 ∧ (∀ a, a ≠ 1 → N'.1 a = N.1 a) ∧ N'.2 = N.2 ∧ ∀ k, k < 16 * i ∨ 16 * i + 16 ≤ k → N'.1 1 k = N.1 1 k
theorem s_setPath {M N : Mm} {i : Nat} (hi : i < 4) (hL : PL (M.1 (2 + 2 * i)) (M.1 (3 + 2 * i)) (fun k => N.1 1 (16 * i + k)))
    (hc : ∀ Z, f_X10_contains (gI M 232 6) (nI i) Z = some (if gI M 236 i < 3 then 0 else 1)) (e9 : gI N 9 i = gI M 236 i)
    (hv : (gI N 0 16 = 0 ∧ gI M 237 i = -2000000005) ∨ (¬ gI N 0 16 = 0 ∧ ((gI N 13 i = 0 ∧ gI M 237 i = -2000000005) ∨ (¬ gI N 13 i = 0 ∧ Int64.toInt32 (gJ N 12 i) = gI M 237 i))))
    {t0 t1 : Int32} (et0 : gI M (2 + 2 * i + 1) 1 - gI M 234 i * gI M (2 + 2 * i) 3 = t0) (et1 : gI M (2 + 2 * i + 1) 2 - gI M 235 i * gI M (2 + 2 * i) 3 = t1)
    (ht : ¬ gI M 236 i < 3 → f_X11_timeOf (nI i) 0 N = some (Int32.toInt64 t0) ∧ f_X11_timeOf (nI i) 1 N = some (Int32.toInt64 t1) ∧ tmOK (M.1 (2 + 2 * i) 4) t0 ∧ tmOK (M.1 (2 + 2 * i) 4) t1)
    (hm : ¬ gI M 236 i < 3 → gJ N 0 19 = Int32.toInt64 (gI M 232 9) ∧ gJ N 12 i = Int32.toInt64 (gI M 237 i)) :
    ∃ M' N', f_X2_settlePath (2 + 2 * i) (nI i) M = some M' ∧ f_X11_tells (nI i) N = some N' ∧ FrP i M N M' N' ∧ PL (M'.1 (2 + 2 * i)) (M'.1 (3 + 2 * i)) (fun k => N'.1 1 (16 * i + k)) := by
  have s3 : (3 + 2 * i = 2 + 2 * i) = False := by simp; try omega
  rw [x_setPath2 hi hc et0 et1, y_tells hi hv (fun q => ⟨(ht (by rw [← e9]; exact q)).1, (ht (by rw [← e9]; exact q)).2.1⟩), e9]
  obtain ⟨l0, ⟨p0, p1, p2, p3, p4⟩, l1, l2, ⟨p8, p9, p10, p11, p12⟩, l3⟩ := hL
  have o8 : ∀ k, k ≠ 2 + 2 * i → (st8 M i).1 k = M.1 k := fun k hk => by unfold st8; rw [wI_o hk, wI_o hk, wI_o hk, wI_o hk]
  have o13 : ∀ k, k ≠ 2 + 2 * i → (st13 M i t0 t1).1 k = M.1 k := fun k hk => by unfold st13; rw [wI_o hk, wI_o hk, wI_o hk, wI_o hk, o8 k hk]
  have oT : ∀ (Z : Mm) (o v c : Int32) (a : Nat), a ≠ 1 → (tlY N Z i o v c).1 a = Z.1 a := fun Z o v c a ha => by unfold tlY; rw [wI_o ha, wI_o ha, wI_o ha, wI_o ha, wI_o ha]
  have kT : ∀ (Z : Mm) (o v c : Int32) (k : Nat), k < 16 * i ∨ 16 * i + 16 ≤ k → (tlY N Z i o v c).1 1 k = Z.1 1 k := fun Z o v c k hk => by unfold tlY; rw [wI_k (by omega), wI_k (by omega), wI_k (by omega), wI_k (by omega), wI_k (by omega)]
  by_cases c : gI M 236 i < 3
  · rw [if_pos c, if_pos c]
    refine ⟨_, _, rfl, rfl, ⟨fun k hk => (wI_o hk).trans (o8 k hk), rfl, fun a ha => oT _ _ _ _ a ha, rfl, fun k hk => kT _ _ _ _ k hk⟩, ?_⟩
    unfold PL tlY st8
    simp only [wI_1, gI_1, s3, true_and, false_and, and_false, if_false, if_true, Nat.add_left_cancel_iff, Nat.reduceEqDiff, p10, p11, p12, and_true, and_self]
    exact ⟨l0, ⟨p0, p1, p2, p3, p4⟩, l1, l2, l3⟩
  · obtain ⟨-, -, k0, k1⟩ := ht c
    obtain ⟨m1, m2⟩ := hm c
    rw [if_neg c, if_neg c, m1, m2]
    by_cases d : gI M 232 9 = 0
    · have d2 : Int32.toInt64 (gI M 232 9) = 0 := by rw [d]; rfl
      rw [if_pos d, if_pos d2]
      refine ⟨_, _, rfl, rfl, ⟨o13, rfl, fun a ha => (oT _ _ _ _ a ha).trans ((wI_o ha).trans (wI_o ha)), rfl, fun k hk => (kT _ _ _ _ k hk).trans ((wI_k (by omega)).trans (wI_k (by omega)))⟩, ?_⟩
      unfold PL tlY st13 st8
      simp only [wI_1, gI_1, s3, true_and, false_and, and_false, if_false, if_true, Nat.add_left_cancel_iff, Nat.reduceEqDiff, p10, p11, p12, and_true, and_self]
      exact ⟨l0, ⟨p0, p1, p2, p3, p4⟩, Or.inr ⟨k0, k1⟩, l2, l3⟩
    · have d2 : ¬ Int32.toInt64 (gI M 232 9) = 0 := fun q => d (by
        rw [j_eq, Int32.toInt_toInt64] at q
        rw [i_eq]
        exact q)
      rw [if_neg d, if_neg d2]
      obtain ⟨r, r1, r2, r3, r4⟩ := lim_held5 (X := st13 M i t0 t1) (Y := wI (wI N 1 (16 * i + 5) t0) 1 (16 * i + 6) t1) (x := Int32.toInt64 (gI M 237 i) * 1000 / Int32.toInt64 (gI M 232 9))
      rw [r1, r2, ob1_s, ob1_s]
      refine ⟨_, _, rfl, rfl, ⟨fun k hk => (wI_o hk).trans ((wI_o hk).trans (o13 k hk)), rfl, fun a ha => (oT _ _ _ _ a ha).trans ((wI_o ha).trans ((wI_o ha).trans (wI_o ha))), rfl, fun k hk => (kT _ _ _ _ k hk).trans ((wI_k (by omega)).trans ((wI_k (by omega)).trans (wI_k (by omega))))⟩, ?_⟩
      unfold PL tlY st13 st8
      simp only [wI_1, gI_1, s3, true_and, false_and, and_false, if_false, if_true, Nat.add_left_cancel_iff, Nat.reduceEqDiff, p10, p11, p12, and_true, and_self]
      exact ⟨l0, ⟨p0, p1, p2, p3, p4⟩, Or.inr ⟨k0, k1⟩, Or.inr ⟨r3, r4⟩, l3⟩

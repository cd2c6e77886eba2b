/-! P33, 16: a new meter; a path added -/
theorem rel0 : Rel ic_MX ic_MY := by
  refine ⟨⟨⟨0, by decide, rfl, rfl, fun i hi => absurd hi (by omega), fun i _ hi => ?_⟩, ⟨0, by decide, rfl, rfl, fun k hk => absurd hk (by omega), fun j k _ hk => absurd hk (by omega)⟩, ?_, ⟨0, by decide, rfl, rfl, ?_, fun k hk => absurd hk (by omega)⟩, ⟨rfl, Or.inl rfl⟩, ⟨rfl, rfl⟩, rfl, rfl⟩, ⟨0, by decide, rfl, rfl, fun j hj => absurd hj (by omega)⟩, fun j _ => ⟨rfl, Or.inl rfl⟩, ⟨0, by decide, rfl, rfl, fun k hk => absurd hk (by omega)⟩⟩
  · match i, hi with
    | 0, _ => exact ⟨rfl, rfl, rfl, rfl, rfl, rfl, rfl, rfl⟩
    | 1, _ => exact ⟨rfl, rfl, rfl, rfl, rfl, rfl, rfl, rfl⟩
    | 2, _ => exact ⟨rfl, rfl, rfl, rfl, rfl, rfl, rfl, rfl⟩
    | 3, _ => exact ⟨rfl, rfl, rfl, rfl, rfl, rfl, rfl, rfl⟩
    | i + 4, hi => exact absurd hi (by omega)
  · unfold PS
    decide +kernel
  · show ∀ k, k < 12 → ∀ j, j < 6 → ic_MY.1 1 (87 + 6 * k + j) = vI ic_MX 0 (16 + k) j
    decide +kernel
theorem inv0 : Inv 0 ic_MX := by
  refine ⟨⟨_, rel0⟩, ⟨fun i hi => ?_, fun n hn hn12 => ?_, ⟨by decide, by decide, by decide⟩, ⟨by decide, by decide⟩, by decide, by decide⟩, fun c hc hc5 j hj => ?_, fun j hj h => ?_⟩
  · match i, hi with
    | 0, _ => exact ⟨⟨by decide, by decide⟩, fun h => absurd h (by decide), fun h => absurd h (by decide), fun h => absurd h (by decide)⟩
    | 1, _ => exact ⟨⟨by decide, by decide⟩, fun h => absurd h (by decide), fun h => absurd h (by decide), fun h => absurd h (by decide)⟩
    | 2, _ => exact ⟨⟨by decide, by decide⟩, fun h => absurd h (by decide), fun h => absurd h (by decide), fun h => absurd h (by decide)⟩
    | 3, _ => exact ⟨⟨by decide, by decide⟩, fun h => absurd h (by decide), fun h => absurd h (by decide), fun h => absurd h (by decide)⟩
    | i + 4, hi => exact absurd hi (by omega)
  · obtain rfl : n = 0 := (nI_eq (a := n) (b := 0) (by omega) (by decide)).mp (hn.symm.trans rfl)
    exact ⟨by decide, fun k hk => absurd hk (by omega)⟩
  · obtain rfl : c = 0 := (nI_eq (a := c) (b := 0) (by omega) (by decide)).mp (hc.symm.trans rfl)
    exact absurd hj (by omega)
  · exact absurd (h.symm.trans (show ic_MX.1 228 j = 0 from rfl)) one_0
theorem np0 : NP ic_MX 0 := ⟨by decide, rfl⟩
theorem x_undo0 {X : Mm} (h : X.1 225 1 = 0) : f_X10_undo X = some (-2000000003, X) := by
  unfold f_X10_undo
  rw [if_pos (show gI X 225 1 = 0 from h)]
theorem x_restore0 {X : Mm} (h : X.1 228 0 = 0) : f_X10_restore 0 X = some (-2000000003, X) := by
  unfold f_X10_restore
  rw [if_neg (by decide), if_pos (by decide), chk_p (by decide), if_pos (show gI X 228 (ix 0) = 0 from h)]
theorem x_addPath {X : Mm} {B n : Nat} {x1 x2 x3 x4 x5 : Int32} (hI : Inv B X) (hn : NP X n) (hn4 : n < 4) (a1 : 50 ≤ x1) (a2 : x1 ≤ 2000) (b1 : 10 ≤ x2) (b2 : x2 ≤ x1) (c1 : 1 ≤ x3) (c2 : x3 ≤ 1000) (d1 : 100 ≤ x4) (d2 : x4 ≤ 10000) (e1 : 0 ≤ x5) (e2 : x5 ≤ 5000) :
    ∃ X', f_X10_addPath x1 x2 x3 x4 x5 X = some (nI n, X') ∧ Inv B X' ∧ NP X' (n + 1) ∧ X'.1 (2 + 2 * n) 10 = -2000000005 ∧ X'.1 (2 + 2 * n) 11 = -2000000005 := by
  obtain ⟨⟨Y, hR⟩, -⟩ := id hI
  obtain ⟨r, X2, Y2, q1, -, hR2⟩ := s_addPath x1 x2 x3 x4 x5 hR
  obtain ⟨X1, p1, hI1, kx, hT⟩ := hI.push
  obtain ⟨⟨n', hA⟩, -⟩ := hR.pg
  obtain rfl : n' = n := (nI_eq (by have := hA.1; omega) (by omega)).mp (hA.2.1.symm.trans hn.2)
  obtain ⟨-, -, f10, f11, -⟩ := hA.2.2.2.2 n' (Nat.le_refl _) hn4
  have q2 : f_X10_addPath x1 x2 x3 x4 x5 X = some (nI n', xAdd X1 n' x1 x2 x3 x4 x5) := by
    unfold f_X10_addPath f_X3_begin
    simp only [in_y (X := X) a1 a2, in_y (X := X) b1 b2, in_y (X := X) c1 c2, in_y (X := X) d1 d2, in_y (X := X) e1 e2, ob1_s, if_neg one_0, lt1_s]
    rw [show gI X 0 1 = nI n' from hn.2, if_neg (nI_pos (by omega)), if_pos (show nI n' < (4 : Int32) from nI_lt hn4 (by decide)), p1, ob1_s, chk_p (inb_n hn4 (by decide)), show rid 50 1 (ix (nI n')) = 2 + 2 * n' from (rid50 (a := 0) hn4).trans (Nat.zero_add _), nI_1]
    rfl
  obtain ⟨rfl, rfl⟩ := Prod.mk.inj (Option.some.inj (q1.symm.trans q2))
  have xo : ∀ k, k ≠ 0 → k ≠ 2 + 2 * n' → (xAdd X1 n' x1 x2 x3 x4 x5).1 k = X1.1 k := fun k h0 h2 => by
    unfold xAdd
    rw [wI_o h0, wI_o h2, wI_o h2, wI_o h2, wI_o h2, wI_o h2]
  have x0 : ∀ j, j ≠ 1 → (xAdd X1 n' x1 x2 x3 x4 x5).1 0 j = X1.1 0 j := fun j hj => by
    unfold xAdd
    rw [wI_k hj, wI_o (by omega), wI_o (by omega), wI_o (by omega), wI_o (by omega), wI_o (by omega)]
  have xp : ∀ j, 5 ≤ j → (xAdd X1 n' x1 x2 x3 x4 x5).1 (2 + 2 * n') j = X1.1 (2 + 2 * n') j := fun j hj => by
    unfold xAdd
    rw [wI_o (by omega), wI_k (by omega), wI_k (by omega), wI_k (by omega), wI_k (by omega), wI_k (by omega)]
  refine ⟨_, q2, (op_fin hI1 hT ⟨Y2, hR2⟩ (fun k a b => ⟨xo k (by omega) (by omega), rfl⟩) (fun o j ho h => ?_) rfl).1, ⟨by omega, ?_⟩, ?_, ?_⟩
  · by_cases c : o = 0
    · subst c
      refine x0 j (fun e => ?_)
      subst e
      exact absurd h (by decide)
    · by_cases c2 : o = 2 + 2 * n'
      · subst c2
        refine congrArg id (xp j ?_)
        have cf : ∀ n, n < 4 → ∀ j, j < 5 → cvS (2 + 2 * n) j = false := by decide
        rcases Nat.lt_or_ge j 5 with z | z
        · rw [cf n' hn4 j z] at h
          exact absurd h (by decide)
        · exact z
      · rw [xo o c c2]
  · unfold xAdd
    rw [wI_e]
  · rw [xp 10 (by decide), kx_lo kx (by omega)]
    exact f10
  · rw [xp 11 (by decide), kx_lo kx (by omega)]
    exact f11

/-! P33, 6: a round that is closed -/
def StP (A A' : Nat → Int32) (o v : Int32) : Prop := (A' 10 = o ∧ A' 11 = v) ∧ (∀ j, j < 5 → A' j = A j) ∧ (o < 3 → A' 12 = A 12 + 1 ∧ ∀ j, 5 ≤ j → j < 10 → A' j = A j) ∧ (¬ o < 3 → A' 12 = 0 ∧ A' 5 = 1)
theorem st8_k {M : Mm} {i j : Nat} (h : j ≠ 10 ∧ j ≠ 11 ∧ j ≠ 13 ∧ j ≠ 14) : (st8 M i).1 (2 + 2 * i) j = M.1 (2 + 2 * i) j := by
  unfold st8
  rw [wI_k h.2.2.2, wI_k h.2.2.1, wI_k h.2.1, wI_k h.1]
theorem st8_10 {M : Mm} {i : Nat} : (st8 M i).1 (2 + 2 * i) 10 = M.1 236 i ∧ (st8 M i).1 (2 + 2 * i) 11 = M.1 237 i := by
  unfold st8
  constructor
  · rw [wI_k (by decide), wI_k (by decide), wI_k (by decide), wI_e]
    rfl
  · rw [wI_k (by decide), wI_k (by decide), wI_e]
    rfl
theorem st8_o {M : Mm} {i k : Nat} (h : k ≠ 2 + 2 * i) : (st8 M i).1 k = M.1 k := by unfold st8; rw [wI_o h, wI_o h, wI_o h, wI_o h]
theorem st13_o {M : Mm} {i k : Nat} {t0 t1 : Int32} (h : k ≠ 2 + 2 * i) : (st13 M i t0 t1).1 k = M.1 k := by unfold st13; rw [wI_o h, wI_o h, wI_o h, wI_o h, st8_o h]
theorem st13_k {M : Mm} {i j : Nat} {t0 t1 : Int32} (h : j ≠ 5 ∧ j ≠ 6 ∧ j ≠ 7 ∧ j ≠ 12) : (st13 M i t0 t1).1 (2 + 2 * i) j = (st8 M i).1 (2 + 2 * i) j := by
  unfold st13
  rw [wI_k h.2.2.1, wI_k h.2.1, wI_k h.1, wI_k h.2.2.2]
theorem st13_5 {M : Mm} {i : Nat} {t0 t1 : Int32} : (st13 M i t0 t1).1 (2 + 2 * i) 5 = 1 ∧ (st13 M i t0 t1).1 (2 + 2 * i) 12 = 0 := by
  unfold st13
  constructor
  · rw [wI_k (by decide), wI_k (by decide), wI_e]
  · rw [wI_k (by decide), wI_k (by decide), wI_k (by decide), wI_e]
theorem x_path1 {M X : Mm} {sk : Int32} {i : Nat} (hi : i < 4) (hA : M.1 (2 + 2 * i) = X.1 (2 + 2 * i)) (ho : M.1 236 i = outc X sk i) (h6 : M.1 232 6 = bitset (accF X sk) 4) : ∃ M', f_X2_settlePath (2 + 2 * i) (nI i) M = some M' ∧ (∀ k, k ≠ 2 + 2 * i → M'.1 k = M.1 k) ∧ M'.2 = M.2 ∧ StP (X.1 (2 + 2 * i)) (M'.1 (2 + 2 * i)) (outc X sk i) (M.1 237 i) := by
  have hc : ∀ Z, f_X10_contains (gI M 232 6) (nI i) Z = some (if gI M 236 i < 3 then 0 else 1) := fun Z => by
    rw [show gI M 232 6 = bitset (accF X sk) 4 from h6, con hi, show gI M 236 i = outc X sk i from ho]
    unfold accF
    by_cases c : outc X sk i < 3
    · rw [if_pos c, if_neg (by simpa using c)]
    · rw [if_neg c, if_pos (by simpa using c)]
  rw [x_setPath2 hi hc rfl rfl, show gI M 236 i = outc X sk i from ho]
  by_cases c : outc X sk i < 3
  · rw [if_pos c]
    refine ⟨_, rfl, fun k hk => (wI_o hk).trans (st8_o hk), rfl, ⟨?_, ?_⟩, fun j hj => ?_, fun _ => ⟨?_, fun j h5 h10 => ?_⟩, fun q => absurd c q⟩
    · rw [wI_k (by decide), st8_10.1, ho]
    · rw [wI_k (by decide), st8_10.2]
    · rw [wI_k (by omega), st8_k (by omega), hA]
    · rw [wI_e, ← hA]
      rfl
    · rw [wI_k (by omega), st8_k (by omega), hA]
  · rw [if_neg c]
    have fin : ∀ {M' : Mm} {t0 t1 : Int32}, (∀ k, k ≠ 2 + 2 * i → M'.1 k = (st13 M i t0 t1).1 k) → M'.2 = (st13 M i t0 t1).2 → (∀ j, j ≠ 8 → j ≠ 9 → M'.1 (2 + 2 * i) j = (st13 M i t0 t1).1 (2 + 2 * i) j) → (∀ k, k ≠ 2 + 2 * i → M'.1 k = M.1 k) ∧ M'.2 = M.2 ∧ StP (X.1 (2 + 2 * i)) (M'.1 (2 + 2 * i)) (outc X sk i) (M.1 237 i) := by
      intro M' t0 t1 a1 a2 a3
      refine ⟨fun k hk => (a1 k hk).trans (st13_o hk), a2, ⟨?_, ?_⟩, fun j hj => ?_, fun q => absurd q c, fun _ => ⟨?_, ?_⟩⟩
      · rw [a3 10 (by decide) (by decide), st13_k (by decide), st8_10.1, ho]
      · rw [a3 11 (by decide) (by decide), st13_k (by decide), st8_10.2]
      · rw [a3 j (by omega) (by omega), st13_k (by omega), st8_k (by omega), hA]
      · rw [a3 12 (by decide) (by decide), st13_5.2]
      · rw [a3 5 (by decide) (by decide), st13_5.1]
    by_cases d : gI M 232 9 = 0
    · rw [if_pos d]
      exact ⟨_, rfl, fin (fun _ _ => rfl) rfl (fun _ _ _ => rfl)⟩
    · rw [if_neg d]
      obtain ⟨r, -, r2, -, -⟩ := lim_held5 (X := st13 M i (gI M (2 + 2 * i + 1) 1 - gI M 234 i * gI M (2 + 2 * i) 3) (gI M (2 + 2 * i + 1) 2 - gI M 235 i * gI M (2 + 2 * i) 3)) (Y := M) (x := Int32.toInt64 (gI M 237 i) * 1000 / Int32.toInt64 (gI M 232 9))
      rw [r2, ob1_s]
      exact ⟨_, rfl, fin (fun k hk => (wI_o hk).trans (wI_o hk)) rfl (fun j h8 h9 => (wI_k h9).trans (wI_k h8))⟩
theorem x_pathsL {X X1 : Mm} {sk : Int32} {n : Nat} (hn : n ≤ 4) (hx : X1.1 0 1 = nI n) (hA : ∀ k, k < 232 → X1.1 k = X.1 k) (ho : ∀ i, i < 4 → X1.1 236 i = outc X sk i) (h6 : X1.1 232 6 = bitset (accF X sk) 4) : ∃ M, f_X2_settle_L2 1000 (0 : Int32) X1 = some M ∧ (∀ i, i < n → StP (X.1 (2 + 2 * i)) (M.1 (2 + 2 * i)) (outc X sk i) (X1.1 237 i)) ∧ (∀ k, (∀ j, j < n → k ≠ 2 + 2 * j) → M.1 k = X1.1 k) ∧ M.2 = X1.2 := by
  refine (fun z => z) (lpUp (L := fun f x s => f_X2_settle_L2 f x s) n (fun i M => (∀ j, j < i → StP (X.1 (2 + 2 * j)) (M.1 (2 + 2 * j)) (outc X sk j) (X1.1 237 j)) ∧ (∀ k, (∀ j, j < i → k ≠ 2 + 2 * j) → M.1 k = X1.1 k) ∧ M.2 = X1.2) (fun M => (∀ i, i < n → StP (X.1 (2 + 2 * i)) (M.1 (2 + 2 * i)) (outc X sk i) (X1.1 237 i)) ∧ (∀ k, (∀ j, j < n → k ≠ 2 + 2 * j) → M.1 k = X1.1 k) ∧ M.2 = X1.2) (fun f M h => ⟨M, ?_, h⟩) (fun f i M hi h => ?_) (by omega) ⟨fun j hj => absurd hj (by omega), fun _ _ => rfl, rfl⟩)
  · have e1 : gI M 0 1 = nI n := (congrFun (h.2.1 0 (fun j _ => by omega)) 1).trans hx
    simp only [f_X2_settle_L2]
    rw [e1]
    by_cases d : (4 : Int32) ≤ nI n
    · rw [if_pos d]
    · rw [if_neg d, if_pos (Int32.le_refl _)]
  · have i4 : i < 4 := by omega
    have e1 : gI M 0 1 = nI n := (congrFun (h.2.1 0 (fun j _ => by omega)) 1).trans hx
    have rO : ∀ k, 28 ≤ k → M.1 k = X1.1 k := fun k hk => h.2.1 k (fun j hj => by omega)
    obtain ⟨M', f1, f2, f3, f4⟩ := x_path1 (M := M) (X := X) (sk := sk) i4 ((h.2.1 _ (fun j hj => by omega)).trans (hA _ (by omega))) ((congrFun (rO 236 (by decide)) i).trans (ho i i4)) ((congrFun (rO 232 (by decide)) 6).trans h6)
    simp only [f_X2_settle_L2]
    rw [e1, if_neg (show ¬ (4 : Int32) ≤ nI i from nI_ge i4 (by decide)), if_neg (show ¬ nI n ≤ nI i from nI_ge hi (by omega)), chk_p (inb_n i4 (by decide)), show rid 50 1 (ix (nI i)) = 2 + 2 * i by rw [show rid 50 1 (ix (nI i)) = 0 + (2 + 2 * i) from rid50 (a := 0) i4]; omega, f1, ob1_s, lt1_s, ← nI_succ]
    refine Or.inr ⟨M', ⟨fun j hj => ?_, fun k hk => (f2 k (hk i (by omega))).trans (h.2.1 k (fun j hj => hk j (by omega))), f3.trans h.2.2⟩, rfl⟩
    by_cases e : j = i
    · subst e
      rw [show X1.1 237 j = M.1 237 j from (congrFun (rO 237 (by decide)) j).symm]
      exact f4
    · rw [f2 _ (by omega)]
      exact h.1 j (by omega)
def noA (X : Mm) : Prop := bitset (accF X (X.1 13 1)) 4 = 0
def vE (X : Mm) (i : Nat) : Int32 := if bitset (accF X (X.1 13 1)) 4 = 0 then -2000000005 else vv X (X.1 13 1) i
def tV (X : Mm) : Int64 := Int32.toInt64 (rvX X (X.1 13 1)) * Int32.toInt64 (X.1 13 3) * Int32.toInt64 (X.1 13 4) / (1000 : Int64)
def ClX (X X' : Mm) (n : Nat) : Prop :=
  (∀ i, i < n → StP (X.1 (2 + 2 * i)) (X'.1 (2 + 2 * i)) (outc X (X.1 13 1) i) (vE X i)) ∧ (∀ i, n ≤ i → i < 4 → X'.1 (2 + 2 * i) = X.1 (2 + 2 * i)) ∧ (∀ i, i < 4 → X'.1 (3 + 2 * i) 0 = 0) ∧
  (X'.1 0 1 = X.1 0 1 ∧ X'.1 0 6 = X.1 0 6 + 1 ∧ X'.1 13 = X.1 13) ∧
  (X'.1 14 1 = jmin (X.1 14 1 + 1) 12 ∧ ∀ k, k < 11 → X'.1 (16 + (k + 1)) = X.1 (16 + k)) ∧
  (X'.1 16 0 = wbX X ∧ X'.1 16 2 = bitset (accF X (X.1 13 1)) 4 ∧ X'.1 16 3 = cob X (X.1 13 1) 4 ∧ X'.1 16 5 = nI (cn X 0 4 + cn X 1 4)) ∧
  ((bitset (accF X (X.1 13 1)) 4 = 0 ∧ X'.1 16 1 = -2000000005 ∧ X'.1 16 4 = 0 ∧ X'.1 0 7 = X.1 0 7 + 1 ∧ X'.2 0 8 = X.2 0 8 ∧ X'.2 0 9 = X.2 0 9) ∨
   (¬ bitset (accF X (X.1 13 1)) 4 = 0 ∧ JA X (X.1 13 1) ∧ X'.1 16 1 = mnX X (X.1 13 1) ∧ X'.1 16 4 = bitset (subF X (accF X (X.1 13 1))) 4 ∧ X'.1 0 7 = X.1 0 7 ∧ ((tV X ≤ 0 ∧ X'.2 0 8 = X.2 0 8 ∧ X'.2 0 9 = X.2 0 9 - tV X) ∨ (¬ tV X ≤ 0 ∧ X'.2 0 8 = X.2 0 8 + tV X ∧ X'.2 0 9 = X.2 0 9))))
set_option maxHeartbeats 1000000 in
theorem x_closeR {X Y : Mm} {n : Nat} (h : Rel X Y) (hn : NP X n) (h0 : 0 < n) : ∃ X', f_X10_closeRound X = some (wbX X, X') ∧ (∃ Y', Rel X' Y') ∧ Out X X' ∧ ClX X X' n := by
  obtain ⟨n4, hx⟩ := hn
  obtain ⟨r, Xa, Ya, ea, -, hRa, -⟩ := s_closes h
  obtain ⟨X1, e1, -, hJ, ho, hs, h5, h6, h7, hm⟩ := x_judge h (nn_sk h)
  obtain ⟨M, l1, p1, p2, p3⟩ := x_pathsL (X := X) (X1 := X1) (sk := X.1 13 1) n4 ((congrFun (hJ.1 0 (by decide)) 1).trans hx) hJ.1 ho h6
  obtain ⟨M2, c1, c2, c3, c4⟩ := x_clr43 (M := M)
  have xk : ob1 (f_X6_startLatest M2) f_X2_fillIn = some (kpX M2) := x_keeps
  have xo : ∀ k, k < 232 → (k < 2 ∨ 10 ≤ k) → M2.1 k = X.1 k := fun k h1 h2 => (c3 k (by omega) (by omega) (by omega) (by omega)).trans ((p2 k (fun j hj => by omega)).trans (hJ.1 k h1))
  have x232 : M2.1 232 = X1.1 232 := (c3 232 (by decide) (by decide) (by decide) (by decide)).trans (p2 232 (fun j hj => by omega))
  have xj : M2.2 = X.2 := c4.trans (p3.trans hJ.2)
  have ko : ∀ k, k < 2 ∨ (10 ≤ k ∧ k < 14) ∨ k = 15 ∨ (28 ≤ k ∧ k < 232) → (kpX M2).1 k = X.1 k := fun k hk => (kx_o (by omega)).trans (xo k (by omega) (by omega))
  have kj : ∀ k, k < 16 ∨ 28 ≤ k → (kpX M2).2 k = X.2 k := fun k hk => (kx_2 hk).trans (congrFun xj k)
  have k232 : (kpX M2).1 232 = X1.1 232 := (kx_o (by omega)).trans x232
  obtain ⟨w0, w1, w2, w3, w4, w5⟩ := kx_r (M := M2)
  have kr : ∀ k, k < 11 → (kpX M2).1 (16 + (k + 1)) = X.1 (16 + k) := fun k hk => by rw [kx_n hk, xo _ (by omega) (by omega)]
  have k14 : (kpX M2).1 14 1 = jmin (X.1 14 1 + 1) 12 := kx_14.trans (by rw [xo 14 (by decide) (by decide)])
  have kp : ∀ i, i < n → StP (X.1 (2 + 2 * i)) ((kpX M2).1 (2 + 2 * i)) (outc X (X.1 13 1) i) (X1.1 237 i) := fun i hi => by
    rw [kx_o (by omega), c3 _ (by omega) (by omega) (by omega) (by omega)]
    exact p1 i hi
  have kq : ∀ i, n ≤ i → i < 4 → (kpX M2).1 (2 + 2 * i) = X.1 (2 + 2 * i) := fun i h1 h2 => by
    rw [kx_o (by omega), c3 _ (by omega) (by omega) (by omega) (by omega), p2 _ (fun j hj => by omega)]
    exact hJ.1 _ (by omega)
  have ks : ∀ i, i < 4 → (kpX M2).1 (3 + 2 * i) 0 = 0 := fun i hi => by
    rw [kx_o (by omega)]
    exact c2 i hi
  have hv : X1.1 232 10 = wbX X := by
    unfold wbX
    rcases hm with ⟨q, -, -, q2, -⟩ | ⟨q, -, -, q2, -⟩
    · rw [if_pos q, q2]
    · rw [if_neg q, q2]
  have hve : ∀ i, i < 4 → X1.1 237 i = vE X i := fun i hi => by
    unfold vE
    rcases hm with ⟨q, -, -, -, q2⟩ | ⟨q, -, -, -, q2, -⟩
    · rw [if_pos q, q2 i hi]
    · rw [if_neg q, q2 i hi]
  generalize kpX M2 = K at *
  have eX : f_X10_closeRound X = ob1 (if gI K 232 6 = 0 then some (wI (wI K 0 6 (gI K 0 6 + 1)) 0 7 (gI K 0 7 + 1)) else f_X8_countVolume (X1.1 232 10) (wI K 0 6 (gI K 0 6 + 1))) fun M_2 => some (gI M_2 232 10, M_2) := by
    unfold f_X10_closeRound
    rw [show gI X 0 1 = nI n from hx, if_neg (nI_ne0 (by omega) (by omega)), show gI X 13 1 = X.1 13 1 from rfl, e1, ob1_s]
    unfold f_X2_settle
    rw [l1, ob1_s, c1, ob1_s, ob1_as (x := f_X6_startLatest M2) (f := f_X2_fillIn), xk, ob1_s, lt1_s, show gI (wI K 0 6 (gI K 0 6 + 1)) 232 6 = gI K 232 6 from gI_o (by decide), show gI (wI K 0 6 (gI K 0 6 + 1)) 232 10 = X1.1 232 10 from (gI_o (by decide)).trans (congrFun k232 10)]
    by_cases c : gI K 232 6 = 0
    · rw [if_pos c, if_pos c, lt1_s, gI_k (by decide)]
    · rw [if_neg c, if_neg c]
      cases f_X8_countVolume (X1.1 232 10) (wI K 0 6 (gI K 0 6 + 1)) <;> rfl
  have ecl : f_X10_closeRound X = clX X := by
    unfold f_X10_closeRound clX
    rw [show gI X 0 1 = nI n from hx, if_neg (nI_ne0 (by omega) (by omega))]
  have key : ∀ X', f_X10_closeRound X = some (wbX X, X') → Out X X' → ClX X X' n → ∃ X', f_X10_closeRound X = some (wbX X, X') ∧ (∃ Y', Rel X' Y') ∧ Out X X' ∧ ClX X X' n := fun X' q1 q2 q3 => by
    rw [← ecl] at ea
    obtain ⟨-, rfl⟩ := Prod.mk.inj (Option.some.inj (ea.symm.trans q1))
    exact ⟨_, q1, ⟨Ya, hRa⟩, q2, q3⟩
  have k6 : gI K 232 6 = bitset (accF X (X.1 13 1)) 4 := (congrFun k232 6).trans h6
  rcases hm with ⟨q, m8, m9, m10, -⟩ | ⟨q, m8, m9, m10, -, hA⟩
  · rw [k6, if_pos q, ob1_s] at eX
    refine key _ (eX.trans (pair_eq ((gI_o (by decide)).trans ((gI_o (by decide)).trans ((congrFun k232 10).trans hv))))) (fun k h1 h2 => ⟨?_, ?_⟩) ⟨fun i hi => ?_, fun i h1 h2 => ?_, fun i hi => ?_, ⟨?_, ?_, ?_⟩, ⟨?_, fun k hk => ?_⟩, ⟨?_, ?_, ?_, ?_⟩, Or.inl ⟨q, ?_, ?_, ?_, ?_, ?_⟩⟩
    · rw [wI_o (by omega), wI_o (by omega), ko k (by omega)]
    · exact kj k (by omega)
    · rw [wI_o (by omega), wI_o (by omega), ← hve i (by omega)]
      exact kp i hi
    · rw [wI_o (by omega), wI_o (by omega)]
      exact kq i h1 h2
    · rw [wI_o (by omega), wI_o (by omega)]
      exact ks i hi
    · rw [wI_k (by decide), wI_k (by decide), ko 0 (by omega)]
    · rw [wI_k (by decide), wI_e, show gI K 0 6 = X.1 0 6 from congrFun (ko 0 (by omega)) 6]
    · rw [wI_o (by decide), wI_o (by decide), ko 13 (by omega)]
    · rw [wI_o (by decide), wI_o (by decide)]
      exact k14
    · rw [wI_o (by omega), wI_o (by omega)]
      exact kr k hk
    · rw [wI_o (by decide), wI_o (by decide), w0, x232, hv]
    · rw [wI_o (by decide), wI_o (by decide), w2, x232, h6]
    · rw [wI_o (by decide), wI_o (by decide), w3, x232, h7]
    · rw [wI_o (by decide), wI_o (by decide), w5, x232, h5]
    · rw [wI_o (by decide), wI_o (by decide), w1, x232, m9]
    · rw [wI_o (by decide), wI_o (by decide), w4, x232, m8]
    · rw [wI_e, show gI K 0 7 = X.1 0 7 from congrFun (ko 0 (by omega)) 7]
    · exact congrFun (kj 0 (by omega)) 8
    · exact congrFun (kj 0 (by omega)) 9
  · have eV : Int32.toInt64 (X1.1 232 10) * Int32.toInt64 (gI (wI K 0 6 (gI K 0 6 + 1)) 13 3) * Int32.toInt64 (gI (wI K 0 6 (gI K 0 6 + 1)) 13 4) / (1000 : Int64) = tV X := by
      rw [m10, show gI (wI K 0 6 (gI K 0 6 + 1)) 13 3 = X.1 13 3 from (gI_o (by decide)).trans (congrFun (ko 13 (by omega)) 3), show gI (wI K 0 6 (gI K 0 6 + 1)) 13 4 = X.1 13 4 from (gI_o (by decide)).trans (congrFun (ko 13 (by omega)) 4)]
      rfl
    have fin : ∀ X' : Mm, X'.1 = (wI K 0 6 (gI K 0 6 + 1)).1 → (∀ k, k ≠ 0 → X'.2 k = K.2 k) → ((tV X ≤ 0 ∧ X'.2 0 8 = X.2 0 8 ∧ X'.2 0 9 = X.2 0 9 - tV X) ∨ (¬ tV X ≤ 0 ∧ X'.2 0 8 = X.2 0 8 + tV X ∧ X'.2 0 9 = X.2 0 9)) → Out X X' ∧ ClX X X' n := by
      intro X' a1 a2 a3
      refine ⟨fun k h1 h2 => ⟨?_, ?_⟩, fun i hi => ?_, fun i h1 h2 => ?_, fun i hi => ?_, ⟨?_, ?_, ?_⟩, ⟨?_, fun k hk => ?_⟩, ⟨?_, ?_, ?_, ?_⟩, Or.inr ⟨q, hA, ?_, ?_, ?_, a3⟩⟩
      · rw [a1, wI_o (by omega), ko k (by omega)]
      · rw [a2 k (by omega)]
        exact kj k (by omega)
      · rw [a1, wI_o (by omega), ← hve i (by omega)]
        exact kp i hi
      · rw [a1, wI_o (by omega)]
        exact kq i h1 h2
      · rw [a1, wI_o (by omega)]
        exact ks i hi
      · rw [a1, wI_k (by decide), ko 0 (by omega)]
      · rw [a1, wI_e, show gI K 0 6 = X.1 0 6 from congrFun (ko 0 (by omega)) 6]
      · rw [a1, wI_o (by decide), ko 13 (by omega)]
      · rw [a1, wI_o (by decide)]
        exact k14
      · rw [a1, wI_o (by omega)]
        exact kr k hk
      · rw [a1, wI_o (by decide), w0, x232, hv]
      · rw [a1, wI_o (by decide), w2, x232, h6]
      · rw [a1, wI_o (by decide), w3, x232, h7]
      · rw [a1, wI_o (by decide), w5, x232, h5]
      · rw [a1, wI_o (by decide), w1, x232, m9]
      · rw [a1, wI_o (by decide), w4, x232, m8]
      · rw [a1, wI_k (by decide), ko 0 (by omega)]
    have vX : ∀ (W : Mm) (k j : Nat) (p : Int64), (wJ W 0 k p).2 0 j = if j = k then p else W.2 0 j := fun W k j p => by
      show (if 0 = 0 ∧ j = k then p else W.2 0 j) = _
      by_cases e : j = k
      · rw [if_pos ⟨rfl, e⟩, if_pos e]
      · rw [if_neg (fun z => e z.2), if_neg e]
    rw [k6, if_neg q] at eX
    unfold f_X8_countVolume at eX
    rw [lt1_s, eV] at eX
    by_cases c : tV X ≤ 0
    · rw [if_pos c, lt1_s, ob1_s] at eX
      obtain ⟨f1, f2⟩ := fin (wJ (wI K 0 6 (gI K 0 6 + 1)) 0 9 (gJ (wI K 0 6 (gI K 0 6 + 1)) 0 9 - tV X)) rfl (fun k hk => wJ_o hk) (Or.inl ⟨c, by rw [vX, if_neg (by decide)]; exact congrFun (kj 0 (by omega)) 8, by rw [vX, if_pos rfl]; exact congrArg (fun z => z - tV X) (congrFun (kj 0 (by omega)) 9)⟩)
      exact key _ (eX.trans (pair_eq (gI_wJ.trans ((gI_o (by decide)).trans ((congrFun k232 10).trans hv))))) f1 f2
    · rw [if_neg c, lt1_s, ob1_s] at eX
      obtain ⟨f1, f2⟩ := fin (wJ (wI K 0 6 (gI K 0 6 + 1)) 0 8 (gJ (wI K 0 6 (gI K 0 6 + 1)) 0 8 + tV X)) rfl (fun k hk => wJ_o hk) (Or.inr ⟨c, by rw [vX, if_pos rfl]; exact congrArg (fun z => z + tV X) (congrFun (kj 0 (by omega)) 8), by rw [vX, if_neg (by decide)]; exact congrFun (kj 0 (by omega)) 9⟩)
      exact key _ (eX.trans (pair_eq (gI_wJ.trans ((gI_o (by decide)).trans ((congrFun k232 10).trans hv))))) f1 f2

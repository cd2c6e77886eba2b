/-! P33, 5: what is judged rests on the state's slots alone; what would be -/
section SAMEP
variable {X X' : Mm} {sk : Int32}
theorem se_p (h : PgE X' 0 X 0) {i j : Nat} (hi : i < 4) (hj : j < 15) : X'.1 (2 + 2 * i) j = X.1 (2 + 2 * i) j := by
  have := h.1 (2 + 2 * i) j (by omega) (by omega) (cov_p hi hj)
  rw [Nat.zero_add] at this
  exact this
theorem se_s (h : PgE X' 0 X 0) {i j : Nat} (hi : i < 4) (hj : j < 4) : X'.1 (3 + 2 * i) j = X.1 (3 + 2 * i) j := by
  have := h.1 (3 + 2 * i) j (by omega) (by omega) (cov_s hi hj)
  rw [Nat.zero_add] at this
  exact this
theorem se_g (h : PgE X' 0 X 0) {j : Nat} (hj : j < 5) : X'.1 13 j = X.1 13 j := h.1 13 j (by decide) (by omega) (cov_g hj)
theorem se_f (h : PgE X' 0 X 0) {j : Nat} (hj : j < 6) : X'.1 11 j = X.1 11 j ∧ X'.1 12 j = X.1 12 j := ⟨h.1 11 j (by decide) (by omega) (cov_v hj).1, h.1 12 j (by decide) (by omega) (cov_v hj).2⟩
theorem se_c (h : PgE X' 0 X 0) : X'.1 10 2 = X.1 10 2 := h.1 10 2 (by decide) (by decide) rfl
theorem se_r (h : PgE X' 0 X 0) {k j : Nat} (hk : k < 12) (hj : j < 6) : X'.1 (16 + k) j = X.1 (16 + k) j := by
  have := h.1 (16 + k) j (by omega) (by omega) (cov_r hk hj)
  rw [Nat.zero_add] at this
  exact this
theorem se_0 (h : PgE X' 0 X 0) : X'.1 0 1 = X.1 0 1 ∧ X'.1 0 4 = X.1 0 4 ∧ X'.1 0 6 = X.1 0 6 ∧ X'.1 0 7 = X.1 0 7 ∧ X'.1 14 1 = X.1 14 1 := ⟨h.1 0 1 (by decide) (by decide) rfl, h.1 0 4 (by decide) (by decide) rfl, h.1 0 6 (by decide) (by decide) rfl, h.1 0 7 (by decide) (by decide) rfl, h.1 14 1 (by decide) (by decide) rfl⟩
theorem se_hv (h : PgE X' 0 X 0) {i : Nat} (hi : i < 4) : hvI X' i = hvI X i := by
  unfold hvI
  rw [se_s h hi (by decide), se_s h hi (by decide), se_p h hi (by decide), se_g h (by decide)]
theorem se_sh0 (h : PgE X' 0 X 0) {i w : Nat} (hi : i < 4) (hw : w < 2) : sh0 X' w i = sh0 X w i := by
  unfold sh0
  rw [se_hv h hi, se_s h hi (by omega), se_p h hi (by omega), se_p h hi (by decide)]
theorem se_allW (h : PgE X' 0 X 0) : allW X' = allW X := sm_congr (fun i hi => by
  show (if hvI X' i = 0 then 0 else X'.1 (2 + 2 * i) 2) = _
  rw [se_hv h hi, se_p h hi (by decide)])
theorem se_wt (h : PgE X' 0 X 0) {w : Nat} (hw : w < 2) (s : Int32) : wt X' w s = wt X w s := sm_congr (fun i hi => by
  show (if hvI X' i = 0 then 0 else if sh0 X' w i = s then X'.1 (2 + 2 * i) 2 else 0) = _
  rw [se_hv h hi, se_sh0 h hi hw, se_p h hi (by decide)])
theorem se_tru (h : PgE X' 0 X 0) {w : Nat} (hw : w < 2) (s : Int32) : tru X' w s = tru X w s := by
  unfold tru
  rw [se_wt h hw, se_allW h, se_g h (by decide)]
theorem se_shf (h : PgE X' 0 X 0) {i w : Nat} (hi : i < 4) (hw : w < 2) : shf X' w i = shf X w i := by
  unfold shf
  rw [se_sh0 h hi hw, se_tru h hw]
theorem se_tm (h : PgE X' 0 X 0) {i w : Nat} (hi : i < 4) (hw : w < 2) : tm X' w i = tm X w i := by
  unfold tm
  rw [se_shf h hi hw, se_s h hi (by omega), se_p h hi (by decide)]
theorem se_skp (h : PgE X' 0 X 0) {i : Nat} (hi : i < 4) : skp X' i = skp X i := by
  unfold skp
  rw [se_shf h hi (by decide), se_shf h hi (by decide)]
theorem se_outc (h : PgE X' 0 X 0) (sk : Int32) {i : Nat} (hi : i < 4) : outc X' sk i = outc X sk i := by
  unfold outc
  rw [se_skp h hi, se_tm h hi (by decide), se_tm h hi (by decide), se_g h (by decide), se_s h hi (by decide), se_s h hi (by decide), se_p h hi (by decide)]
theorem se_acc (h : PgE X' 0 X 0) (sk : Int32) {i : Nat} (hi : i < 4) : accF X' sk i = accF X sk i := by
  unfold accF
  rw [se_outc h sk hi]
theorem se_sub (h : PgE X' 0 X 0) (sk : Int32) {i : Nat} (hi : i < 4) : subF X' (accF X' sk) i = subF X (accF X sk) i := by
  unfold subF
  rw [se_acc h sk hi, se_p h hi (by decide)]
theorem se_as (h : PgE X' 0 X 0) (sk : Int32) {i : Nat} (hi : i < 4) : asF X' sk i = asF X sk i := by
  unfold asF
  rw [se_acc h sk hi, se_sub h sk hi]
theorem bitset_cg {f g : Nat → Bool} : ∀ k : Nat, (∀ i, i < k → f i = g i) → bitset f k = bitset g k := by
  intro k
  induction k with
  | zero => intro _; rfl
  | succ k ih =>
    intro h
    show fb1 (f k) k (bitset f k) = fb1 (g k) k (bitset g k)
    rw [ih (fun i hi => h i (by omega)), h k (by omega)]
theorem se_vF (h : PgE X' 0 X 0) {i : Nat} (hi : i < 4) : vF X' i = vF X i := by
  unfold vF f_X3_velocityFrom
  have e0 : gI X' (2 + 2 * i) 0 = gI X (2 + 2 * i) 0 := se_p h hi (by decide)
  have e1 : gI X' (2 + 2 * i) 1 = gI X (2 + 2 * i) 1 := se_p h hi (by decide)
  have e4 : gI X' (2 + 2 * i) 4 = gI X (2 + 2 * i) 4 := se_p h hi (by decide)
  rw [se_tm h hi (by decide), se_tm h hi (by decide), e0, e1, e4]
  rfl
theorem sw_cg {fl fl' : Nat → Bool} {v v' : Nat → Int64} {w w' : Nat → Int32} : ∀ k : Nat, (∀ i, i < k → fl' i = fl i) → (∀ i, i < k → fl i = true → v' i = v i) → (∀ i, i < k → w' i = w i) → swv fl' v' w' k = swv fl v w k ∧ sww fl' w' k = sww fl w k := by
  intro k
  induction k with
  | zero => intro _ _ _; exact ⟨rfl, rfl⟩
  | succ k ih =>
    intro h1 h2 h3
    obtain ⟨i1, i2⟩ := ih (fun i hi => h1 i (by omega)) (fun i hi => h2 i (by omega)) (fun i hi => h3 i (by omega))
    show (if fl' k = true then swv fl' v' w' k + Int32.toInt64 (w' k) * v' k else swv fl' v' w' k) = (if fl k = true then swv fl v w k + Int32.toInt64 (w k) * v k else swv fl v w k) ∧ (if fl' k = true then sww fl' w' k + Int32.toInt64 (w' k) else sww fl' w' k) = (if fl k = true then sww fl w k + Int32.toInt64 (w k) else sww fl w k)
    rw [i1, i2, h1 k (by omega), h3 k (by omega)]
    by_cases c : fl k = true
    · rw [if_pos c, if_pos c, if_pos c, h2 k (by omega) c]
      exact ⟨rfl, rfl⟩
    · rw [if_neg c, if_neg c, if_neg c]
      exact ⟨rfl, rfl⟩
theorem se_w (h : PgE X' 0 X 0) {i : Nat} (hi : i < 4) : wgt X' i = wgt X i := se_p h hi (by decide)
theorem se_m1 (h : PgE X' 0 X 0) (sk : Int32) : m1 X' sk = m1 X sk := by
  unfold m1
  obtain ⟨e1, e2⟩ := sw_cg (fl := accF X sk) (fl' := accF X' sk) (v := fun i => Int32.toInt64 (vF X i)) (v' := fun i => Int32.toInt64 (vF X' i)) (w := wgt X) (w' := wgt X') 4 (fun i hi => se_acc h sk hi) (fun i hi _ => by rw [se_vF h hi]) (fun i hi => se_w h hi)
  rw [e1, e2]
theorem se_vv (h : PgE X' 0 X 0) (sk : Int32) {i : Nat} (hi : i < 4) : vv X' sk i = vv X sk i := by
  unfold vv sub64
  rw [se_acc h sk hi, se_sub h sk hi, se_vF h hi, se_m1 h sk, se_p h hi (by decide)]
theorem se_m2 (h : PgE X' 0 X 0) (sk : Int32) : m2 X' sk = m2 X sk := by
  unfold m2
  obtain ⟨e1, e2⟩ := sw_cg (fl := asF X sk) (fl' := asF X' sk) (v := fun i => Int32.toInt64 (vv X sk i)) (v' := fun i => Int32.toInt64 (vv X' sk i)) (w := wgt X) (w' := wgt X') 4 (fun i hi => se_as h sk hi) (fun i hi _ => by rw [se_vv h sk hi]) (fun i hi => se_w h hi)
  rw [e1, e2]
theorem se_ff (h : PgE X' 0 X 0) (x : Int32) : f_X4_factorFor x X' = f_X4_factorFor x X := ff_congr (se_c h) (fun _ hk => (se_f h hk).1) (fun _ hk => (se_f h hk).2)
theorem se_rv (h : PgE X' 0 X 0) (sk : Int32) : rvX X' sk = rvX X sk := by
  unfold rvX mnX ffX
  rw [se_m2 h sk, se_ff h]
/-- the velocity that the round would have -/
def wbX (X : Mm) : Int32 := if bitset (accF X (X.1 13 1)) 4 = 0 then -2000000005 else rvX X (X.1 13 1)
theorem se_bs (h : PgE X' 0 X 0) (sk : Int32) : bitset (accF X' sk) 4 = bitset (accF X sk) 4 := bitset_cg 4 (fun i hi => se_acc h sk hi)
theorem se_wb (h : PgE X' 0 X 0) : wbX X' = wbX X := by
  unfold wbX
  rw [se_g h (by decide), se_bs h, se_rv h]
theorem NP.se {n : Nat} (h : NP X n) (hp : PgE X' 0 X 0) : NP X' n := ⟨h.1, (se_0 hp).1.trans h.2⟩
theorem NR.se {n : Nat} (h : NR X n) (hp : PgE X' 0 X 0) : NR X' n := ⟨h.1, (se_0 hp).2.2.2.2.trans h.2⟩
end SAMEP
theorem nn_sk {X Y : Mm} (h : Rel X Y) : X.1 13 1 ≤ 5 := (sk_ok h).2
theorem x_wouldBe {X Y : Mm} {n : Nat} (h : Rel X Y) (hn : NP X n) (h0 : 0 < n) : ∃ X', f_X10_wouldBe X = some (wbX X, X') ∧ (∃ Y', Rel X' Y') ∧ Jd X X' := by
  obtain ⟨X', e, hR, hJ, -, -, -, -, -, hm⟩ := x_judge h (nn_sk h)
  refine ⟨X', ?_, hR, hJ⟩
  have hn4 := hn.1
  unfold f_X10_wouldBe
  rw [show gI X 0 1 = nI n from hn.2, if_neg (nI_ne0 (by omega) (by omega)), show gI X 13 1 = X.1 13 1 from rfl, e, ob1_s]
  unfold wbX
  rcases hm with ⟨q, -, -, q2, -⟩ | ⟨q, -, -, q2, -⟩
  · rw [if_pos q, show gI X' 232 10 = -2000000005 from q2]
  · rw [if_neg q, show gI X' 232 10 = rvX X (X.1 13 1) from q2]
theorem x_wouldBe0 {X : Mm} (hn : NP X 0) : f_X10_wouldBe X = some (-2000000003, X) := by
  unfold f_X10_wouldBe
  rw [show gI X 0 1 = 0 from hn.2, if_pos rfl]
theorem x_wouldBecome {X Y : Mm} {n i : Nat} (h : Rel X Y) (hn : NP X n) (hi : i < n) : ∃ X', f_X10_wouldBecome (nI i) X = some (outc X (X.1 13 1) i, X') ∧ (∃ Y', Rel X' Y') ∧ Jd X X' := by
  obtain ⟨X', e, hR, hJ, ho, -⟩ := x_judge h (nn_sk h)
  have hn4 := hn.1
  refine ⟨X', ?_, hR, hJ⟩
  unfold f_X10_wouldBecome f_X2_outcomeOf
  rw [at_in hn hi, ob1_s, onl_s, chk_p (ks_path (by omega)), show gI X 13 1 = X.1 13 1 from rfl, e, ob1_s, if_neg (nI_pos (by omega)), if_neg (show ¬ (4 : Int32) ≤ nI i from nI_ge (b := 4) (by omega) (by decide)), chk_p (inb_n (by omega) (by decide)), ob1_s, ix_n (by omega), show gI X' 236 i = outc X (X.1 13 1) i from ho i (by omega)]
/-- the skips needed -/
theorem x_skips {X Y : Mm} (h : Rel X Y) : ∃ r X', f_X10_skipsNeeded X = some (r, X') ∧ (∃ Y', Rel X' Y') ∧ Jd X X' ∧
    ((r = -2000000005 ∧ ∀ s, s ≤ 5 → ∃ i, i < 4 ∧ outc X (nI s) i = 2) ∨ (∃ s, s ≤ 5 ∧ r = nI s ∧ (∀ i, i < 4 → ¬ outc X (nI s) i = 2) ∧ ∀ t, t < s → ∃ i, i < 4 ∧ outc X (nI t) i = 2)) := by
  obtain ⟨b, hb, hP⟩ := lpUp (L := fun f x (s : Mm) => f_X10_skipsNeeded_L2 f x s) 6 (fun k (M : Mm) => (∃ Y', Rel M Y') ∧ Jd X M ∧ ∀ t, t < k → ∃ i, i < 4 ∧ outc X (nI t) i = 2) (fun (b : Int32 × Mm) => (∃ Y', Rel b.2 Y') ∧ Jd X b.2 ∧ ((b.1 = -2000000005 ∧ ∀ s, s ≤ 5 → ∃ i, i < 4 ∧ outc X (nI s) i = 2) ∨ (∃ s, s ≤ 5 ∧ b.1 = nI s ∧ (∀ i, i < 4 → ¬ outc X (nI s) i = 2) ∧ ∀ t, t < s → ∃ i, i < 4 ∧ outc X (nI t) i = 2))) (fun f M hM => ⟨(-2000000005, M), by rw [f_X10_skipsNeeded_L2, if_pos (show (5 : Int32) < nI 6 by decide)], hM.1, hM.2.1, Or.inl ⟨rfl, fun s hs => hM.2.2 s (by omega)⟩⟩) (fun f k M hk hM => by
    obtain ⟨⟨Y', hR⟩, hJ, ht⟩ := hM
    obtain ⟨M', e, hR', hJ', ho, -⟩ := x_judge hR (sk := nI k) (nI_le (b := 5) (by omega) (by decide))
    obtain ⟨r, r1, r2, r3⟩ := x_hasOut (M := M') (o := fun i => outc M (nI k) i) ho
    have eo : ∀ i, i < 4 → outc M (nI k) i = outc X (nI k) i := fun i hi => se_outc hJ.pg _ hi
    show (∃ b, f_X10_skipsNeeded_L2 (f + 1) (nI k) M = some b ∧ _) ∨ (∃ s', _ ∧ f_X10_skipsNeeded_L2 (f + 1) (nI k) M = f_X10_skipsNeeded_L2 f (nI (k + 1)) s')
    rw [f_X10_skipsNeeded_L2, if_neg (show ¬ (5 : Int32) < nI k from nI_nlt (a := 5) (by omega) (by decide)), e, ob1_s, r1, ob1_s]
    by_cases c : r = 0
    · rw [if_pos c]
      refine Or.inl ⟨(nI k, M'), rfl, hR', hJ.tr hJ', Or.inr ⟨k, by omega, rfl, fun i hi => ?_, ht⟩⟩
      rw [← eo i hi]
      exact r3.mp c i hi
    · rw [if_neg c, lt1_s, nI_1]
      refine Or.inr ⟨M', ⟨hR', hJ.tr hJ', fun t h1 => ?_⟩, rfl⟩
      rcases Nat.eq_or_lt_of_le (show t ≤ k by omega) with q | q
      · subst q
        by_cases z : ∃ i, i < 4 ∧ outc X (nI t) i = 2
        · exact z
        · exact absurd (r3.mpr (fun i hi => by
            show ¬ outc M (nI t) i = 2
            rw [eo i hi]
            exact fun q => z ⟨i, hi, q⟩)) c
      · exact ht t q) (by decide) (s := X) ⟨⟨Y, h⟩, Jd.rf, fun t ht => absurd ht (by omega)⟩
  obtain ⟨r, X'⟩ := b
  exact ⟨r, X', hb, hP.1, hP.2.1, hP.2.2⟩

/-! P33, 7: what holds of every meter holds behind a round that was closed -/
theorem cob_b {X : Mm} {sk : Int32} : ∀ k : Nat, cob X sk k = bitset (fun i => decide (outc X sk i = 3)) k := by
  intro k
  induction k with
  | zero => rfl
  | succ k ih =>
    show (if outc X sk k = 3 then cob X sk k ||| ((1 : Int32) <<< (nI k &&& 31)) else cob X sk k) = (if decide (outc X sk k = 3) = true then bitset (fun i => decide (outc X sk i = 3)) k ||| ((1 : Int32) <<< (nI k &&& 31)) else bitset (fun i => decide (outc X sk i = 3)) k)
    rw [ih]
    by_cases c : outc X sk k = 3
    · rw [if_pos c, if_pos (decide_eq_true c)]
    · rw [if_neg c, if_neg (by simpa using c)]
theorem bt_sub : ∀ a0 a1 a2 a3 c0 c1 c2 c3 : Bool, (c0 = true → a0 = true) → (c1 = true → a1 = true) → (c2 = true → a2 = true) → (c3 = true → a3 = true) → bt4 c0 c1 c2 c3 &&& (bt4 a0 a1 a2 a3 ^^^ (-1)) = 0 := by decide +kernel
theorem bt_dis : ∀ a0 a1 a2 a3 c0 c1 c2 c3 : Bool, (c0 = true → a0 = false) → (c1 = true → a1 = false) → (c2 = true → a2 = false) → (c3 = true → a3 = false) → bt4 c0 c1 c2 c3 &&& bt4 a0 a1 a2 a3 = 0 := by decide +kernel
theorem bt4_v : ∀ b0 b1 b2 b3 : Bool, ∀ i, i < 4 → ((bt4 b0 b1 b2 b3 >>> (nI i &&& 31)) &&& (1 : Int32)) = if sel4 b0 b1 b2 b3 i = true then 1 else 0 := by decide +kernel
theorem bit_at {fl : Nat → Bool} {i : Nat} (hi : i < 4) : ((bitset fl 4 >>> (nI i &&& 31)) &&& (1 : Int32)) = if fl i = true then 1 else 0 := by
  rw [bitset4, bt4_v _ _ _ _ i hi, sel4_e fl hi]
theorem outc_v (X : Mm) (sk : Int32) (i : Nat) : outc X sk i = 0 ∨ outc X sk i = 1 ∨ outc X sk i = 2 ∨ outc X sk i = 3 ∨ outc X sk i = 4 := by
  unfold outc
  by_cases c : X.1 (3 + 2 * i) 0 = 0
  · rw [if_pos c]; exact Or.inl rfl
  rw [if_neg c]
  by_cases c : X.1 13 0 ≤ X.1 (3 + 2 * i) 3
  · rw [if_pos c]
    by_cases c : sk < skp X i
    · rw [if_pos c]; exact Or.inr (Or.inr (Or.inl rfl))
    rw [if_neg c]
    by_cases c : tm X 0 i - X.1 (2 + 2 * i) 4 < 1000
    · rw [if_pos c]; exact Or.inr (Or.inr (Or.inl rfl))
    rw [if_neg c]
    by_cases c : tm X 1 i - X.1 (2 + 2 * i) 4 < 1000
    · rw [if_pos c]; exact Or.inr (Or.inr (Or.inl rfl))
    rw [if_neg c]
    by_cases c : skp X i = 0
    · rw [if_pos c]; exact Or.inr (Or.inr (Or.inr (Or.inr rfl)))
    · rw [if_neg c]; exact Or.inr (Or.inr (Or.inr (Or.inl rfl)))
  · rw [if_neg c]; exact Or.inr (Or.inl rfl)
theorem acc_if {X : Mm} {sk : Int32} {i : Nat} : accF X sk i = true ↔ outc X sk i = 3 ∨ outc X sk i = 4 := by
  unfold accF
  rw [decide_eq_true_iff]
  rcases outc_v X sk i with q | q | q | q | q
  all_goals (rw [q]; decide)
theorem bs_ex {fl : Nat → Bool} : ¬ bitset fl 4 = 0 ↔ ∃ i, i < 4 ∧ fl i = true := by
  constructor
  · intro h
    by_cases q : ∃ i, i < 4 ∧ fl i = true
    · exact q
    · exact absurd (bitset_0.mpr (fun i hi => by
        cases hz : fl i with
        | false => rfl
        | true => exact absurd ⟨i, hi, hz⟩ q)) h
  · rintro ⟨i, hi, hf⟩ h
    have := bitset_0.mp h i hi
    rw [hf] at this
    exact absurd this (by decide)
theorem no_of {x : Int32} (h1 : -1000000 ≤ x.toInt) : ¬ x = -2000000005 := fun q => by
  rw [q, no_lit] at h1
  omega
theorem JA.nn {X : Mm} {sk : Int32} (h : JA X sk) : ¬ rvX X sk = -2000000005 ∧ ¬ mnX X sk = -2000000005 := by
  have h1 := h.rv
  have h2 := h.2.2.2.1
  exact ⟨no_of (by omega), no_of (by omega)⟩
theorem tV_b {X Y : Mm} (h : Rel X Y) (hA : JA X (X.1 13 1)) : -1000000000000 ≤ (tV X).toInt ∧ (tV X).toInt ≤ 1000000000000 := by
  obtain ⟨-, -, hS, -⟩ := h.pg
  obtain ⟨-, -, -, -, ⟨a1, a2⟩, b1, b2⟩ := hS
  obtain ⟨r1, r2, -⟩ := hA.rv
  rw [i_le] at a1 a2 b1 b2
  have u1 : (1 : Int32).toInt = 1 := rfl
  have u2 : (1000000 : Int32).toInt = 1000000 := rfl
  have u3 : (1000 : Int32).toInt = 1000 := rfl
  have m1 : (rvX X (X.1 13 1)).toInt * (X.1 13 3).toInt ≤ 750000 * (X.1 13 3).toInt := Int.mul_le_mul_of_nonneg_right r2 (by omega)
  have m2 : -750000 * (X.1 13 3).toInt ≤ (rvX X (X.1 13 1)).toInt * (X.1 13 3).toInt := Int.mul_le_mul_of_nonneg_right r1 (by omega)
  have e1 : (Int32.toInt64 (rvX X (X.1 13 1)) * Int32.toInt64 (X.1 13 3)).toInt = (rvX X (X.1 13 1)).toInt * (X.1 13 3).toInt := by rw [fb_mulL] <;> rw [Int32.toInt_toInt64, Int32.toInt_toInt64] <;> omega
  have m3 : (rvX X (X.1 13 1)).toInt * (X.1 13 3).toInt * (X.1 13 4).toInt ≤ 750000000000 * (X.1 13 4).toInt := Int.mul_le_mul_of_nonneg_right (by omega) (by omega)
  have m4 : -750000000000 * (X.1 13 4).toInt ≤ (rvX X (X.1 13 1)).toInt * (X.1 13 3).toInt * (X.1 13 4).toInt := Int.mul_le_mul_of_nonneg_right (by omega) (by omega)
  have e2 : (Int32.toInt64 (rvX X (X.1 13 1)) * Int32.toInt64 (X.1 13 3) * Int32.toInt64 (X.1 13 4)).toInt = (rvX X (X.1 13 1)).toInt * (X.1 13 3).toInt * (X.1 13 4).toInt := by rw [fb_mulL] <;> rw [e1, Int32.toInt_toInt64] <;> omega
  unfold tV
  rw [Int64.toInt_div_of_ne_right _ _ (by decide), e2]
  obtain ⟨b1, b2⟩ := tdiv_bnd (a := (rvX X (X.1 13 1)).toInt * (X.1 13 3).toInt * (X.1 13 4).toInt) (c := 1000000000000) (L := (1000 : Int64).toInt) (by decide) (by rw [show (1000 : Int64).toInt = 1000 from rfl]; omega) (by rw [show (1000 : Int64).toInt = 1000 from rfl]; omega)
  exact ⟨b1, b2⟩
theorem jmin_n {n : Nat} (h : n ≤ 12) : jmin (nI n + 1) 12 = nI (if n = 12 then 12 else n + 1) := by
  have : ∀ n, n ≤ 12 → jmin (nI n + 1) 12 = nI (if n = 12 then 12 else n + 1) := by decide +kernel
  exact this n h
theorem SI_close {B n : Nat} {X X' Y : Mm} (hR : Rel X Y) (hn : NP X n) (hS : SI B X.1 (X.2 0)) (hB : B ≤ 1000000) (hc : ClX X X' n) : SI (B + 1) X'.1 (X'.2 0) := by
  obtain ⟨s1, s2, ⟨s3, s4, s5⟩, ⟨s6, s7⟩, s8, s9⟩ := hS
  obtain ⟨c1, c2, c3, ⟨c4, c5, c6⟩, ⟨c7, c8⟩, ⟨c9, c10, c11, c12⟩, c13⟩ := hc
  obtain ⟨-, -, -, ⟨nr, hnr, hnx, -⟩, -⟩ := hR.pg
  have hnx' : X.1 14 1 = nI nr := hnx
  have o1 : (1 : Int32).toInt = 1 := rfl
  have e6 : (X'.1 0 6).toInt = (X.1 0 6).toInt + 1 := by rw [c5, fb_addI (by omega) (by omega), o1]
  have acN : ∀ i, i < 4 → accF X (X.1 13 1) i = true → ¬ bitset (accF X (X.1 13 1)) 4 = 0 := fun i hi hf => bs_ex.mpr ⟨i, hi, hf⟩
  refine ⟨fun i hi => ?_, fun m hm hm12 => ?_, ?_, ?_, ?_⟩
  · have hs0 : ¬ X'.1 (3 + 2 * i) 0 = 1 := by rw [c3 i hi]; decide
    rcases Nat.lt_or_ge i n with q | q
    · obtain ⟨⟨t1, t2⟩, -, t3, t4⟩ := c1 i q
      obtain ⟨⟨a1, a2⟩, -⟩ := s1 i hi
      have hadd : (X.1 (2 + 2 * i) 12 + 1).toInt = (X.1 (2 + 2 * i) 12).toInt + 1 := by rw [fb_addI (by omega) (by omega), o1]
      by_cases c : outc X (X.1 13 1) i < 3
      · obtain ⟨t5, -⟩ := t3 c
        refine ⟨by rw [t5, hadd]; omega, fun z => ?_, fun _ _ z => ?_, fun z => absurd z hs0⟩
        · rw [t1] at z
          rw [i_lt] at c
          have : (3 : Int32).toInt = 3 := rfl
          omega
        · rw [t5] at z
          rw [i_eq, hadd] at z
          have : (0 : Int32).toInt = 0 := rfl
          omega
      · obtain ⟨t5, -⟩ := t4 c
        refine ⟨by rw [t5]; exact ⟨Int.le_refl _, by show (0 : Int) ≤ _; omega⟩, fun z => ⟨t5, ?_⟩, fun _ z _ => ?_, fun z => absurd z hs0⟩
        · have ha : accF X (X.1 13 1) i = true := decide_eq_true c
          have hb := acN i hi ha
          rw [t2]
          unfold vE vv
          rw [if_neg hb, if_pos ha]
          rcases c13 with ⟨q, -⟩ | ⟨-, hA, -⟩
          · exact absurd q hb
          · exact (hA.1 i hi ha).1
        · rw [t1] at z
          rw [i_lt] at c
          have : (3 : Int32).toInt = 3 := rfl
          omega
    · rw [c2 i q hi]
      obtain ⟨p1, p2, p3, -⟩ := SP_mono (Nat.le_succ B) (s1 i hi)
      exact ⟨p1, p2, p3, fun z => absurd z hs0⟩
  · rw [c7, hnx', jmin_n hnr] at hm
    obtain rfl : (if nr = 12 then 12 else nr + 1) = m := (nI_eq (by split <;> omega) (by omega)).mp hm
    obtain ⟨z1, z2⟩ := s2 nr hnx' hnr
    refine ⟨by rw [e6]; split <;> omega, fun k hk => ?_⟩
    rcases Nat.eq_zero_or_pos k with e | e
    · subst e
      show SR (X'.1 16)
      have ts : 0 ≤ (X'.1 16 5).toInt ∧ (X'.1 16 5).toInt ≤ 8 := by
        have k1 := cn_le (X := X) (w := 0) 4
        have k2 := cn_le (X := X) (w := 1) 4
        rw [c12, nI_toInt (by omega)]
        omega
      refine ⟨?_, ts⟩
      rcases c13 with ⟨q, d1, d2, -⟩ | ⟨q, hA, d1, d2, -⟩
      · refine Or.inl ⟨?_, d1, ?_, ?_, d2⟩
        · rw [c9]; unfold wbX; rw [if_pos q]
        · rw [c10, q]
        · rw [c11, cob_b]
          refine bitset_0.mpr (fun i hi => ?_)
          have z := bitset_0.mp q i hi
          cases hz : decide (outc X (X.1 13 1) i = 3) with
          | false => rfl
          | true =>
            rw [acc_if.mpr (Or.inl (of_decide_eq_true hz))] at z
            exact absurd z (by decide)
      · refine Or.inr ⟨?_, ?_, ?_, ?_, ?_⟩
        · rw [c9]; unfold wbX; rw [if_neg q]; exact hA.nn.1
        · rw [d1]; exact hA.nn.2
        · rw [c10]; exact q
        · rw [c11, c10, cob_b, bitset4, bitset4]
          exact bt_sub _ _ _ _ _ _ _ _ (fun z => acc_if.mpr (Or.inl (of_decide_eq_true z))) (fun z => acc_if.mpr (Or.inl (of_decide_eq_true z))) (fun z => acc_if.mpr (Or.inl (of_decide_eq_true z))) (fun z => acc_if.mpr (Or.inl (of_decide_eq_true z)))
        · rw [d2, c10, bitset4, bitset4]
          have sNo : ∀ i, subF X (accF X (X.1 13 1)) i = true → accF X (X.1 13 1) i = false := fun i hi => by
            unfold subF at hi
            simp only [Bool.and_eq_true, Bool.not_eq_true'] at hi
            exact hi.1
          exact bt_dis _ _ _ _ _ _ _ _ (sNo 0) (sNo 1) (sNo 2) (sNo 3)
    · obtain ⟨d, rfl⟩ : ∃ d, k = d + 1 := ⟨k - 1, by omega⟩
      have hd : d < nr ∧ d < 11 := by
        by_cases z : nr = 12
        · rw [if_pos z] at hk; omega
        · rw [if_neg z] at hk; omega
      rw [c8 d hd.2]
      exact z2 d hd.1
  · rw [e6]
    have e7 : (X.1 0 7 + 1).toInt = (X.1 0 7).toInt + 1 := by rw [fb_addI (by omega) (by omega), o1]
    rcases c13 with ⟨-, -, -, d, -⟩ | ⟨-, -, -, -, d, -⟩
    · rw [d, e7]; omega
    · rw [d]; omega
  · rcases c13 with ⟨-, -, -, -, d, -⟩ | ⟨-, hA, -, -, -, ⟨-, d, -⟩ | ⟨d0, d, -⟩⟩
    · rw [d]; omega
    · rw [d]; omega
    · have := tV_b hR hA
      rw [j_le, show (0 : Int64).toInt = 0 from rfl] at d0
      rw [d, fb_addL (by omega) (by omega)]
      omega
  · rcases c13 with ⟨-, -, -, -, -, d⟩ | ⟨-, hA, -, -, -, ⟨d0, -, d⟩ | ⟨-, -, d⟩⟩
    · rw [d]; omega
    · have := tV_b hR hA
      rw [j_le, show (0 : Int64).toInt = 0 from rfl] at d0
      rw [d, fb_subL (by omega) (by omega)]
      omega
    · rw [d]; omega
theorem se_cob {X X' : Mm} (h : PgE X' 0 X 0) (sk : Int32) : cob X' sk 4 = cob X sk 4 := by
  rw [cob_b, cob_b]
  exact bitset_cg 4 (fun i hi => by rw [se_outc h sk hi])
theorem se_cn {X X' : Mm} (h : PgE X' 0 X 0) {w : Nat} (hw : w < 2) : ∀ k : Nat, k ≤ 4 → cn X' w k = cn X w k := by
  intro k
  induction k with
  | zero => intro _; rfl
  | succ k ih =>
    intro hk
    have e : (¬ tru X' w (sh0 X' w k) = 0 ∧ ∀ q, q < k → ¬ sh0 X' w q = sh0 X' w k) ↔ (¬ tru X w (sh0 X w k) = 0 ∧ ∀ q, q < k → ¬ sh0 X w q = sh0 X w k) := by
      rw [se_tru h hw, se_sh0 h (by omega) hw]
      constructor
      · rintro ⟨a, b⟩
        exact ⟨a, fun q hq z => b q hq (by rw [se_sh0 h (by omega) hw]; exact z)⟩
      · rintro ⟨a, b⟩
        exact ⟨a, fun q hq z => b q hq (by rw [← se_sh0 h (by omega) hw]; exact z)⟩
    show cn X' w k + _ = cn X w k + _
    rw [ih (by omega)]
    by_cases c : ¬ tru X w (sh0 X w k) = 0 ∧ ∀ q, q < k → ¬ sh0 X w q = sh0 X w k
    · rw [if_pos c, if_pos (e.mpr c)]
    · rw [if_neg c, if_neg (fun z => c (e.mp z))]
theorem ClX.se {X Xp X' : Mm} {n : Nat} (hn : n ≤ 4) (hk : ∀ k, k < 28 → Xp.1 k = X.1 k) (hk2 : Xp.2 0 = X.2 0) (hc : ClX Xp X' n) (hA : JA Xp (X.1 13 1) → JA X (X.1 13 1)) : ClX X X' n := by
  have hp : PgE Xp 0 X 0 := PgE.of (fun o q => hk _ (by omega)) hk2
  have e13 : Xp.1 13 1 = X.1 13 1 := congrFun (hk 13 (by decide)) 1
  obtain ⟨c1, c2, c3, ⟨c4, c5, c6⟩, ⟨c7, c8⟩, ⟨c9, c10, c11, c12⟩, c13⟩ := hc
  have ev : ∀ i, i < 4 → vE Xp i = vE X i := fun i hi => by unfold vE; rw [e13, se_bs hp, se_vv hp _ hi]
  have et : tV Xp = tV X := by unfold tV; rw [e13, se_rv hp, hk 13 (by decide)]
  rw [e13] at c10 c11 c13
  rw [et, se_bs hp, hk2, hk 0 (by decide)] at c13
  rw [hk 0 (by decide)] at c4 c5
  rw [hk 13 (by decide)] at c6
  rw [hk 14 (by decide)] at c7
  rw [se_wb hp] at c9
  rw [se_bs hp] at c10
  rw [se_cob hp] at c11
  rw [se_cn hp (by decide) 4 (by decide), se_cn hp (by decide) 4 (by decide)] at c12
  refine ⟨fun i hi => ?_, fun i h1 h2 => ?_, c3, ⟨c4, c5, c6⟩, ⟨c7, fun k h => ?_⟩, ⟨c9, c10, c11, c12⟩, ?_⟩
  · have := c1 i hi
    rw [e13, se_outc hp _ (by omega), hk _ (by omega), ev i (by omega)] at this
    exact this
  · rw [c2 i h1 h2, hk _ (by omega)]
  · rw [c8 k h, hk _ (by omega)]
  · rcases c13 with q | ⟨q1, q2, q3, q4, q5⟩
    · exact Or.inl q
    · refine Or.inr ⟨q1, hA q2, ?_, ?_, q5⟩
      · rw [q3]; unfold mnX; rw [se_m2 hp]
      · rw [q4]; exact bitset_cg 4 (fun i hi => se_sub hp _ hi)
theorem JA.se {X X' : Mm} {sk : Int32} (hp : PgE X' 0 X 0) (h : JA X' sk) : JA X sk := by
  have em : mnX X' sk = mnX X sk := by unfold mnX; rw [se_m2 hp]
  obtain ⟨h1, h2, h3, h4, ⟨f, f1, f2⟩, ⟨i, i1, i2⟩⟩ := h
  rw [se_m1 hp] at h2
  rw [se_m2 hp, em] at h4
  rw [em, se_ff hp] at f1
  refine ⟨fun i hi hf => ?_, h2, fun i hi hf => ?_, h4, ⟨f, f1, f2⟩, i, i1, ?_⟩
  · have := h1 i hi (by rw [se_acc hp _ hi]; exact hf)
    rw [se_vF hp hi, se_w hp hi] at this
    exact this
  · have := h3 i hi (by rw [se_sub hp _ hi]; exact hf)
    rw [se_w hp hi, se_m1 hp] at this
    have e : sub64 X' (Int64.toInt32 (m1 X sk)) i = sub64 X (Int64.toInt32 (m1 X sk)) i := by unfold sub64; rw [se_p hp hi (by decide)]
    rw [e] at this
    exact this
  · rw [← se_acc hp _ i1]
    exact i2
/-- slots, the history's length -/
def Sl (X X' : Mm) : Prop := ∀ k, (168 ≤ k ∧ k < 224) ∨ k = 228 → X'.1 k = X.1 k ∧ X'.2 k = X.2 k
theorem Sl.tr {X X' X'' : Mm} (h : Sl X X') (h2 : Sl X' X'') : Sl X X'' := fun k a => ⟨((h2 k a).1).trans (h k a).1, ((h2 k a).2).trans (h k a).2⟩
theorem Out.sl {X X' : Mm} (h : Out X X') : Sl X X' := fun k a => h k (by omega) (by omega)
theorem Kx.sl {X X' : Mm} (h : Kx X X') : Sl X X' := fun k a => ⟨(h k (by omega)).1 (by omega), (h k (by omega)).2⟩
theorem Kx.p0 {X X' : Mm} (h : Kx X X') : (∀ k, k < 28 → X'.1 k = X.1 k) ∧ X'.2 0 = X.2 0 := ⟨fun k hk => (h k (by omega)).1 (by omega), (h 0 (by omega)).2⟩
theorem Kx.pg {X X' : Mm} (h : Kx X X') : PgE X' 0 X 0 := PgE.of (fun o q => h.p0.1 _ (by omega)) h.p0.2
theorem Inv.close {B n : Nat} {X : Mm} (h : Inv B X) (hn : NP X n) (h0 : 0 < n) (hB : B ≤ 1000000) : ∃ X', f_X10_close X = some (wbX X, X') ∧ Inv (B + 1) X' ∧ Top X X' ∧ Sl X X' ∧ ClX X X' n := by
  obtain ⟨Xp, e1, hI, kx, ht⟩ := h.push
  obtain ⟨⟨Y, hR⟩, hSp, -⟩ := id hI
  rw [vI_0] at hSp
  obtain ⟨k1, k2⟩ := kx.p0
  have hnp : NP Xp n := hn.se kx.pg
  obtain ⟨X', e2, hR', ho, hc⟩ := x_closeR hR hnp h0
  have hS' := SI_close hR hnp hSp hB hc
  rw [← vI_0 (M := X')] at hS'
  refine ⟨X', ?_, hI.mod hR' ho hS' (Nat.le_succ B), ht.keep ho, kx.sl.tr ho.sl, hc.se hn.1 k1 k2 (fun z => z.se kx.pg)⟩
  have h4 := hn.1
  unfold f_X10_close
  rw [show gI X 0 1 = nI n from hn.2, if_neg (nI_ne0 (by omega) (by omega)), e1, ob1_s, e2, ob2_s, se_wb kx.pg]
theorem close_0 {X : Mm} (hn : NP X 0) : f_X10_close X = some (-2000000003, X) := by
  unfold f_X10_close
  rw [show gI X 0 1 = 0 from hn.2, if_pos rfl]

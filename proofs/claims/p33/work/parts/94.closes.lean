/-! P33, 11: a round that is closed, beside what it would be -/
def sbF (X : Mm) (i : Nat) : Bool := decide (¬ bitset (accF X (X.1 13 1)) 4 = 0) && subF X (accF X (X.1 13 1)) i
theorem b1 {fl : Nat → Bool} {i : Nat} (hi : i < 4) {α : Type} {k : Int32 → Option α} : ob1 (if ((bitset fl 4 >>> (nI i &&& 31)) &&& (1 : Int32)) = (1 : Int32) then some (1 : Int32) else some 0) k = k (if fl i = true then 1 else 0) := by
  rw [bit_at hi]
  by_cases c : fl i = true
  · rw [if_pos c, if_pos rfl, ob1_s]
  · rw [if_neg c, if_neg (by decide), ob1_s]
theorem sub_no {X : Mm} {sk : Int32} {i : Nat} (h : subF X (accF X sk) i = true) : ¬ accF X sk i = true ∧ ¬ X.1 (2 + 2 * i) 8 = 0 := by
  unfold subF at h
  simp only [Bool.and_eq_true, Bool.not_eq_true', decide_eq_true_eq] at h
  exact ⟨by rw [h.1]; decide, h.2⟩
theorem vE_no {X X' : Mm} {n i : Nat} (hc : ClX X X' n) (hi : i < 4) : (vE X i = -2000000005 ∧ ¬ accF X (X.1 13 1) i = true ∧ ¬ sbF X i = true) ∨ (¬ vE X i = -2000000005 ∧ (accF X (X.1 13 1) i = true ∨ sbF X i = true) ∧ ¬ bitset (accF X (X.1 13 1)) 4 = 0 ∧ vE X i = vv X (X.1 13 1) i ∧ asF X (X.1 13 1) i = true) := by
  obtain ⟨-, -, -, -, -, -, hm⟩ := hc
  unfold vE sbF
  rcases hm with ⟨q, -⟩ | ⟨q, hA, -⟩
  · rw [if_pos q]
    refine Or.inl ⟨rfl, fun z => ?_, fun z => ?_⟩
    · rw [bitset_0.mp q i hi] at z; exact absurd z (by decide)
    · simp only [Bool.and_eq_true, decide_eq_true_eq] at z
      exact z.1 q
  · rw [if_neg q]
    by_cases c : asF X (X.1 13 1) i = true
    · refine Or.inr ⟨no_of (by have := (hA.v hi c).1; omega), ?_, q, rfl, c⟩
      unfold asF at c
      rw [Bool.or_eq_true] at c
      rcases c with c | c
      · exact Or.inl c
      · exact Or.inr (by simp only [Bool.and_eq_true, decide_eq_true_eq]; exact ⟨q, c⟩)
    · have ca : ¬ accF X (X.1 13 1) i = true := fun z => c (by unfold asF; rw [z]; rfl)
      have cs : ¬ subF X (accF X (X.1 13 1)) i = true := fun z => c (by unfold asF; rw [z, Bool.or_true])
      refine Or.inl ⟨?_, ca, fun z => ?_⟩
      · unfold vv
        rw [if_neg ca, if_neg cs]
      · simp only [Bool.and_eq_true, decide_eq_true_eq] at z
        exact cs z.2
theorem J369_1 {y37 y39 r : Int32} (h : (r = -2000000005 ∧ y37 = 0 ∧ y39 = 0) ∨ (¬ r = -2000000005 ∧ (¬ y37 = 0 ∨ ¬ y39 = 0))) : f_L_closes_J369 y37 y39 r = some 1 := by
  unfold f_L_closes_J369
  rcases h with ⟨a, b, c⟩ | ⟨a, b⟩
  · rw [if_pos a, ob1_s, if_pos b, if_pos c, ob1_s, if_pos rfl]
  · rw [if_neg a, ob1_s]
    by_cases d : y37 = 0
    · rw [if_pos d, if_neg (b.resolve_left (fun z => z d)), ob1_s, if_pos rfl]
    · rw [if_neg d, ob1_s, if_pos rfl]
/-- the rows that the law keeps -/
def KR (X N : Mm) (i : Nat) : Prop := N.1 0 i = outc X (X.1 13 1) i ∧ N.1 1 (2 * i) = rfF X i ∧ N.1 1 (2 * i + 1) = rtX X i
theorem ev2 (i : Nat) : (2 : Int32) * nI i = nI (2 * i) := nI_mul 2 i
theorem s45 {X Y : Mm} {n : Nat} (h : Rel X Y) (hn : NP X n) {M0 : Mm} (hM0 : ∃ Y', Rel M0 Y') (hJ0 : Jd X M0) : ∃ M N, f_L_closes_L45 (nI n) 1000 (0 : Int32) M0 lz0 = some (M, N) ∧ (∃ Y', Rel M Y') ∧ Jd X M ∧ ∀ i, i < n → KR X N i := by
  have hn4 := hn.1
  have hmain : ∃ b, f_L_closes_L45 (nI n) 1000 (0 : Int32) M0 lz0 = some b ∧ ((∃ Y', Rel b.1 Y') ∧ Jd X b.1 ∧ ∀ i, i < n → KR X b.2 i) := by
    refine lpUp (L := fun f x (s : Mm × Mm) => f_L_closes_L45 (nI n) f x s.1 s.2) n (fun i s => (∃ Y', Rel s.1 Y') ∧ Jd X s.1 ∧ ∀ j, j < i → KR X s.2 j) (fun b => (∃ Y', Rel b.1 Y') ∧ Jd X b.1 ∧ ∀ i, i < n → KR X b.2 i) (fun f s hs => ⟨s, ?_, hs⟩) (fun f i s hi hs => ?_) (by omega) (s := (M0, lz0)) ⟨hM0, hJ0, fun j hj => absurd hj (by omega)⟩
    · obtain ⟨M, N⟩ := s
      show f_L_closes_L45 (nI n) (f + 1) (nI n) M N = some (M, N)
      rw [f_L_closes_L45, if_pos (Int32.le_refl _)]
    · obtain ⟨M, N⟩ := s
      obtain ⟨⟨YM, hRM⟩, hJ, hK⟩ := hs
      have hRM' : Rel M YM := hRM
      have hJ' : Jd X M := hJ
      obtain ⟨M', w1, hR', hJ1⟩ := x_wouldBecome hRM' (hn.se hJ'.pg) hi
      have hp : PgE M' 0 X 0 := hJ'.pg.tr hJ1.pg
      rw [se_g hJ'.pg (by decide), se_outc hJ'.pg _ (by omega)] at w1
      have r5 : f_X10_path (nI i) 5 M' = some (rfF X i) := by
        rw [lk_p5 (hn.se hp) hi]
        unfold rfF
        rw [se_p hp (by omega) (by decide), se_p hp (by omega) (by decide)]
      have r7 : f_X10_path (nI i) 7 M' = some (rtX X i) := by
        rw [lk_p7 (hn.se hp) hi]
        unfold rtX
        rw [se_p hp (by omega) (by decide), se_p hp (by omega) (by decide)]
      show (∃ b, f_L_closes_L45 (nI n) (f + 1) (nI i) M N = some b ∧ _) ∨ (∃ s', _ ∧ f_L_closes_L45 (nI n) (f + 1) (nI i) M N = _)
      rw [f_L_closes_L45, if_neg (show ¬ nI n ≤ nI i from nI_ge hi (by omega)), w1, ob2_s, chk_p (inb_n (by omega) (by decide)), lt1_s, r5, ob1_s, ev2, chk_p (inb_n (by omega) (by decide)), lt1_s, r7, ob1_s, nI_1, chk_p (inb_n (by omega) (by decide)), lt1_s, lt1_s, nI_1, ix_n (by omega), ix_n (by omega), ix_n (by omega)]
      refine Or.inr ⟨(M', wI (wI (wI N 0 i (outc X (X.1 13 1) i)) 1 (2 * i) (rfF X i)) 1 (2 * i + 1) (rtX X i)), ⟨hR', hJ'.tr hJ1, fun j hj => ?_⟩, rfl⟩
      rcases Nat.eq_or_lt_of_le (show j ≤ i by omega) with e | e
      · subst e
        refine ⟨?_, ?_, ?_⟩
        · show (wI (wI (wI N 0 j _) 1 (2 * j) _) 1 (2 * j + 1) _).1 0 j = _
          rw [wI_o (by decide), wI_o (by decide), wI_e]
        · show (wI (wI (wI N 0 j _) 1 (2 * j) _) 1 (2 * j + 1) _).1 1 (2 * j) = _
          rw [wI_k (by omega), wI_e]
        · show (wI (wI (wI N 0 j _) 1 (2 * j) _) 1 (2 * j + 1) _).1 1 (2 * j + 1) = _
          rw [wI_e]
      · obtain ⟨k1, k2, k3⟩ := hK j e
        refine ⟨?_, ?_, ?_⟩
        · show (wI (wI (wI N 0 i _) 1 (2 * i) _) 1 (2 * i + 1) _).1 0 j = _
          rw [wI_o (by decide), wI_o (by decide), wI_k (by omega)]
          exact k1
        · show (wI (wI (wI N 0 i _) 1 (2 * i) _) 1 (2 * i + 1) _).1 1 (2 * j) = _
          rw [wI_k (by omega), wI_k (by omega), wI_o (by decide)]
          exact k2
        · show (wI (wI (wI N 0 i _) 1 (2 * i) _) 1 (2 * i + 1) _).1 1 (2 * j + 1) = _
          rw [wI_k (by omega), wI_k (by omega), wI_o (by decide)]
          exact k3
  obtain ⟨⟨M, N⟩, h1, h2, h3, h4⟩ := hmain
  exact ⟨M, N, h1, h2, h3, h4⟩
theorem s183 {X Y X' N : Mm} {n nr i f : Nat} {lo hi cnt : Int32} (hR : Rel X Y) (hn : NP X n) (hn' : NP X' n) (hN' : NR X' nr) (h0 : 0 < nr) (hc : ClX X X' n) (hK : KR X N i) (hi4 : i < n) :
    f_L_closes_L183 (nI n) N X' (f + 1) lo hi cnt 1 (nI i) = f_L_closes_L183 (nI n) N X' f (if vE X i = -2000000005 then lo else if cnt = 0 then vE X i else if lo ≤ vE X i then lo else vE X i) (if vE X i = -2000000005 then hi else if cnt = 0 then vE X i else if vE X i ≤ hi then hi else vE X i) (cnt + if vE X i = -2000000005 then 0 else 1) 1 (nI (i + 1)) := by
  have h4 := hn.1
  have i4 : i < 4 := by omega
  obtain ⟨c1, -, -, -, -, ⟨-, c10, c11, -⟩, c13⟩ := id hc
  obtain ⟨⟨t1, t2⟩, -, t3, -⟩ := c1 i hi4
  obtain ⟨k1, k2, k3⟩ := hK
  obtain ⟨⟨n', hA⟩, -⟩ := hR.pg
  obtain rfl : n' = n := (nI_eq (by have := hA.1; omega) (by omega)).mp (hA.2.1.symm.trans hn.2)
  have hL := hA.2.2.2.1 i hi4
  have e4 : X'.1 16 4 = bitset (sbF X) 4 := by
    rcases c13 with ⟨q, -, q2, -⟩ | ⟨q, -, -, q2, -⟩
    · rw [q2]
      refine (bitset_0.mpr (fun j _ => ?_)).symm
      unfold sbF
      rw [decide_eq_false (fun z => z q)]
      rfl
    · rw [q2]
      refine bitset_cg 4 (fun j _ => ?_)
      unfold sbF
      rw [decide_eq_true q]
      rfl
  have r2 : f_X10_round 0 2 X' = some (bitset (accF X (X.1 13 1)) 4) := (lk_r (p := 2) hN' h0 (by decide)).trans (congrArg some c10)
  have r4 : f_X10_round 0 4 X' = some (bitset (sbF X) 4) := (lk_r (p := 4) hN' h0 (by decide)).trans (congrArg some e4)
  have r3 : f_X10_round 0 3 X' = some (bitset (fun i => decide (outc X (X.1 13 1) i = 3)) 4) := (lk_r (p := 3) hN' h0 (by decide)).trans (congrArg some (c11.trans (cob_b 4)))
  have p9 : f_X10_path (nI i) 9 X' = some (vE X i) := (lk_p9 hn' hi4).trans (congrArg some t2)
  have p8 : f_X10_path (nI i) 8 X' = some (outc X (X.1 13 1) i) := (lk_p8 hn' hi4).trans (congrArg some t1)
  have g0 : gI N 0 (ix (nI i)) = outc X (X.1 13 1) i := by rw [ix_n (by omega)]; exact k1
  have g2 : gI N 1 (ix (nI (2 * i))) = rfF X i := by rw [ix_n (by omega)]; exact k2
  have g3 : gI N 1 (ix (nI (2 * i + 1))) = rtX X i := by rw [ix_n (by omega)]; exact k3
  have acc2 : accF X (X.1 13 1) i = true ↔ ¬ outc X (X.1 13 1) i ≤ 2 := by
    rw [acc_if]
    rcases outc_v X (X.1 13 1) i with u | u | u | u | u
    all_goals (rw [u]; decide)
  rw [f_L_closes_L183, if_neg (show ¬ nI n' ≤ nI i from nI_ge hi4 (by omega)), if_neg one_0, r2, ob1_s, b1 i4, r4, ob1_s, b1 i4, p9, ob1_s, p8, ob1_s, chk_p (inb_n i4 (by decide)), g0, if_pos rfl, chk_p (inb_n i4 (by decide)), ob1_if]
  have ey : (if accF X (X.1 13 1) i = true then (1 : Int32) else 0) = (if outc X (X.1 13 1) i ≤ 2 then 0 else 1) := by
    by_cases q : accF X (X.1 13 1) i = true
    · rw [if_pos q, if_neg (acc2.mp q)]
    · rw [if_neg q, if_pos]
      by_cases z : outc X (X.1 13 1) i ≤ 2
      · exact z
      · exact absurd (acc2.mpr z) q
  rw [if_pos ey, r3, ob1_s, chk_p (inb_n i4 (by decide)), ob1_if, bit_at i4]
  have e3 : (if (fun i => decide (outc X (X.1 13 1) i = 3)) i = true then (1 : Int32) else 0) = (if outc X (X.1 13 1) i = 3 then 1 else 0) := by
    by_cases q : outc X (X.1 13 1) i = 3
    · rw [if_pos (decide_eq_true q), if_pos q]
    · rw [if_neg (by simpa using q), if_neg q]
  rw [if_pos e3]
  have j369 : f_L_closes_J369 (if accF X (X.1 13 1) i = true then (1 : Int32) else 0) (if sbF X i = true then 1 else 0) (vE X i) = some 1 := by
    rcases vE_no hc i4 with ⟨a, b, d⟩ | ⟨a, b, -⟩
    · exact J369_1 (Or.inl ⟨a, if_neg b, if_neg d⟩)
    · refine J369_1 (Or.inr ⟨a, ?_⟩)
      rcases b with b | b
      · exact Or.inl (by rw [if_pos b]; decide)
      · exact Or.inr (by rw [if_pos b]; decide)
  have j350 : f_L_closes_J350 N (nI i) (if accF X (X.1 13 1) i = true then (1 : Int32) else 0) (if sbF X i = true then 1 else 0) (vE X i) = some 1 := by
    unfold f_L_closes_J350
    rw [j369, ev2, nI_1, g3, chk_p (inb_n (by omega) (by decide))]
    by_cases q : sbF X i = true
    · rw [if_neg (show ¬ (if sbF X i = true then (1 : Int32) else 0) = 0 by rw [if_pos q]; decide), if_neg]
      have hs : subF X (accF X (X.1 13 1)) i = true := by
        unfold sbF at q
        rw [Bool.and_eq_true] at q
        exact q.2
      rcases rtX_r hL with ⟨z, -⟩ | ⟨-, z, -⟩
      · exact absurd z (sub_no hs).2
      · exact z
    · rw [if_pos (show (if sbF X i = true then (1 : Int32) else 0) = 0 from if_neg q)]
  rw [j350]
  have jm : (if (if accF X (X.1 13 1) i = true then (1 : Int32) else 0) = (0 : Int32) then (ob1 (f_X10_path (nI i) (5 : Int32) X') fun r_48 => chk (inb ((2 : Int32) * nI i) 8) <| (if r_48 = (gI N 1 (ix ((2 : Int32) * nI i))) then (ob1 (f_X10_path (nI i) (7 : Int32) X') fun r_49 => chk (inb (((2 : Int32) * nI i) + (1 : Int32)) 8) <| (if r_49 = (gI N 1 (ix (((2 : Int32) * nI i) + (1 : Int32)))) then some (1 : Int32) else some (0 : Int32))) else some (0 : Int32))) else some (1 : Int32)) = some 1 := by
    by_cases q : accF X (X.1 13 1) i = true
    · rw [if_neg]
      rw [if_pos q]
      decide
    · rw [if_pos (show (if accF X (X.1 13 1) i = true then (1 : Int32) else 0) = 0 from if_neg q)]
      have hlt : outc X (X.1 13 1) i < 3 := by
        by_cases z : outc X (X.1 13 1) i < 3
        · exact z
        · exact absurd (decide_eq_true z) q
      obtain ⟨-, hsame⟩ := t3 hlt
      have q5 : f_X10_path (nI i) 5 X' = some (rfF X i) := by
        rw [lk_p5 hn' hi4]
        unfold rfF
        rw [hsame 5 (by decide) (by decide), hsame 6 (by decide) (by decide)]
      have q7 : f_X10_path (nI i) 7 X' = some (rtX X i) := by
        rw [lk_p7 hn' hi4]
        unfold rtX
        rw [hsame 8 (by decide) (by decide), hsame 9 (by decide) (by decide)]
      rw [q5, ob1_s, ev2, chk_p (inb_n (by omega) (by decide)), g2, if_pos rfl, q7, ob1_s, nI_1, chk_p (inb_n (by omega) (by decide)), g3, if_pos rfl]
  rw [jm, ob1_s]
  unfold f_L_closes_J430 f_L_closes_J425 f_L_closes_J458 f_L_closes_J453
  rw [nI_succ]
  by_cases c : vE X i = -2000000005
  · simp only [if_pos c, ob1_s, lt1_s]
  · simp only [if_neg c]
    by_cases d : cnt = 0
    · simp only [if_pos d, ob1_s, lt1_s]
    · simp only [if_neg d]
      by_cases a : lo ≤ vE X i
      · by_cases b : vE X i ≤ hi
        · simp only [if_pos a, if_pos b, ob1_s, lt1_s]
        · simp only [if_pos a, if_neg b, ob1_s, lt1_s]
      · by_cases b : vE X i ≤ hi
        · simp only [if_neg a, if_pos b, ob1_s, lt1_s]
        · simp only [if_neg a, if_neg b, ob1_s, lt1_s]
theorem m_closes0 {X : Mm} (hn : NP X 0) : f_L_closes X = some (1, X) := by
  unfold f_L_closes
  rw [lk_0, ob1_s, x_wouldBe0 hn, ob2_s, lk_3, ob1_s, lk_v0, ob1_s, lk_v1, ob1_s, show X.1 0 1 = nI 0 from hn.2, show (1000 : Nat) = 999 + 1 from rfl, f_L_closes_L45, if_pos (by decide), ob2_s, close_0 hn, ob2_s, if_pos rfl, if_pos (show nI 0 = (0:Int32) from rfl), if_pos rfl]
set_option maxHeartbeats 1000000 in
theorem m_closes {X : Mm} {B n : Nat} (hI : Inv B X) (hn : NP X n) (h0 : 0 < n) (hB : B ≤ 1000000) : ∃ X', f_L_closes X = some (1, X') ∧ Inv (B + 1) X' ∧ Top X X' ∧ Sl X X' ∧ NP X' n := by
  obtain ⟨⟨Y, hR⟩, hSI, -⟩ := id hI
  have hn4 := hn.1
  obtain ⟨X1, w1, hR1, hJ1⟩ := x_wouldBe hR hn h0
  obtain ⟨M, N, l1, hRM, hJM, hK⟩ := s45 hR hn hR1 hJ1
  obtain ⟨X', e1, hI', hT, hS, hc0⟩ := (hI.jd hRM hJM).close (hn.se hJM.pg) h0 hB
  have hpM := hJM.pg
  rw [se_wb hpM] at e1
  have hc : ClX X X' n := hc0.se hn4 (fun k hk => hJM.1 k (by omega)) (congrFun hJM.2 0) (fun z => z.se hpM)
  obtain ⟨⟨Y', hR'⟩, -⟩ := id hI'
  obtain ⟨c1, c2, c3, ⟨c4, c5, c6⟩, ⟨c7, c8⟩, ⟨c9, c10, c11, c12⟩, c13⟩ := id hc
  have hn' : NP X' n := ⟨hn4, c4.trans hn.2⟩
  obtain ⟨-, -, -, ⟨nr, hnr, hnx, -⟩, -⟩ := hR.pg
  have hnx' : X.1 14 1 = nI nr := hnx
  obtain ⟨m, hm0, hN'⟩ : ∃ m, 0 < m ∧ NR X' m := by
    rw [hnx', jmin_n hnr] at c7
    exact ⟨_, by split <;> omega, by split <;> omega, c7⟩
  have r0 : f_X10_round 0 0 X' = some (wbX X) := (lk_r (p := 0) hN' hm0 (by decide)).trans (congrArg some c9)
  have r1 : f_X10_round 0 1 X' = some (X'.1 16 1) := lk_r (p := 1) hN' hm0 (by decide)
  have wno : ¬ wbX X = -2000000003 := by
    unfold wbX
    rcases c13 with ⟨q, -⟩ | ⟨q, hA, -⟩
    · rw [if_pos q]; decide
    · rw [if_neg q]
      intro z
      have := hA.rv.1
      rw [z] at this
      exact absurd this (by decide)
  have t2 : f_X10_total 2 X' = some 0 := by
    rw [lk_2]
    have : sm (fun i => if X'.1 (3 + 2 * i) 0 = 0 then (0 : Int32) else 1) 4 = sm (fun i => if X'.1 (3 + 2 * i) 0 = 0 then (0 : Int32) else 1) 0 := sm_to (Nat.zero_le _) (fun i _ hi => if_pos (c3 i hi))
    rw [this]
    rfl
  -- the loop over the paths
  have oneT : (1 : Int32).toInt = 1 := rfl
  have hmain : ∃ b, f_L_closes_L183 (nI n) N X' 1000 (0 : Int32) (0 : Int32) (0 : Int32) (1 : Int32) (0 : Int32) = some b ∧ (b.2.2.2 = 1 ∧ ((b.2.2.1 = 0 ∧ ∀ i, i < n → vE X i = -2000000005) ∨ (¬ b.2.2.1 = 0 ∧ (∃ i, i < n ∧ ¬ vE X i = -2000000005) ∧ ∀ i, i < n → ¬ vE X i = -2000000005 → b.1.toInt ≤ (vE X i).toInt ∧ (vE X i).toInt ≤ b.2.1.toInt))) := by
    refine lpUp (L := fun f x (s : Int32 × Int32 × Int32) => f_L_closes_L183 (nI n) N X' f s.1 s.2.1 s.2.2 1 x) n (fun k s => (0 ≤ s.2.2.toInt ∧ s.2.2.toInt ≤ k) ∧ ((s.2.2.toInt = 0 ∧ ∀ i, i < k → vE X i = -2000000005) ∨ (¬ s.2.2.toInt = 0 ∧ (∃ i, i < k ∧ ¬ vE X i = -2000000005) ∧ ∀ i, i < k → ¬ vE X i = -2000000005 → s.1.toInt ≤ (vE X i).toInt ∧ (vE X i).toInt ≤ s.2.1.toInt))) (fun b => b.2.2.2 = 1 ∧ ((b.2.2.1 = 0 ∧ ∀ i, i < n → vE X i = -2000000005) ∨ (¬ b.2.2.1 = 0 ∧ (∃ i, i < n ∧ ¬ vE X i = -2000000005) ∧ ∀ i, i < n → ¬ vE X i = -2000000005 → b.1.toInt ≤ (vE X i).toInt ∧ (vE X i).toInt ≤ b.2.1.toInt))) (fun f s hs => ?_) (fun f k s hk hs => ?_) (by omega) (s := ((0 : Int32), (0 : Int32), (0 : Int32))) ⟨⟨by decide, by decide⟩, Or.inl ⟨rfl, fun i hi => absurd hi (by omega)⟩⟩
    · obtain ⟨lo, hi, a⟩ := s
      obtain ⟨-, s4⟩ := hs
      have s4' : (a.toInt = 0 ∧ ∀ i, i < n → vE X i = -2000000005) ∨ (¬ a.toInt = 0 ∧ (∃ i, i < n ∧ ¬ vE X i = -2000000005) ∧ ∀ i, i < n → ¬ vE X i = -2000000005 → lo.toInt ≤ (vE X i).toInt ∧ (vE X i).toInt ≤ hi.toInt) := s4
      refine ⟨(lo, hi, a, 1), ?_, rfl, ?_⟩
      · show f_L_closes_L183 (nI n) N X' (f + 1) lo hi a 1 (nI n) = _
        rw [f_L_closes_L183, if_pos (Int32.le_refl _)]
      · rcases s4' with ⟨q, q2⟩ | ⟨q, q2⟩
        · exact Or.inl ⟨by show a = 0; rw [i_eq]; exact q, q2⟩
        · exact Or.inr ⟨fun z => q (by have z' : a = 0 := z; rw [z']; rfl), q2⟩
    · obtain ⟨lo, hi, a⟩ := s
      obtain ⟨⟨s2, s3⟩, s4⟩ := hs
      have s2' : 0 ≤ a.toInt := s2
      have s3' : a.toInt ≤ k := s3
      have s4' : (a.toInt = 0 ∧ ∀ i, i < k → vE X i = -2000000005) ∨ (¬ a.toInt = 0 ∧ (∃ i, i < k ∧ ¬ vE X i = -2000000005) ∧ ∀ i, i < k → ¬ vE X i = -2000000005 → lo.toInt ≤ (vE X i).toInt ∧ (vE X i).toInt ≤ hi.toInt) := s4
      refine Or.inr ⟨((if vE X k = -2000000005 then lo else if a = 0 then vE X k else if lo ≤ vE X k then lo else vE X k), (if vE X k = -2000000005 then hi else if a = 0 then vE X k else if vE X k ≤ hi then hi else vE X k), a + if vE X k = -2000000005 then 0 else 1), ?_, s183 hR hn hn' hN' hm0 hc (hK k hk) hk⟩
      by_cases c : vE X k = -2000000005
      · rw [if_pos c, if_pos c, if_pos c, Int32.add_zero]
        refine ⟨⟨s2', by show a.toInt ≤ _; omega⟩, ?_⟩
        show (a.toInt = 0 ∧ ∀ i, i < k + 1 → vE X i = -2000000005) ∨ (¬ a.toInt = 0 ∧ (∃ i, i < k + 1 ∧ ¬ vE X i = -2000000005) ∧ ∀ i, i < k + 1 → ¬ vE X i = -2000000005 → lo.toInt ≤ (vE X i).toInt ∧ (vE X i).toInt ≤ hi.toInt)
        rcases s4' with ⟨a0, ha⟩ | ⟨a0, ⟨i, i1, i2⟩, hall⟩
        · refine Or.inl ⟨a0, fun i hi => ?_⟩
          rcases Nat.eq_or_lt_of_le (show i ≤ k by omega) with e | e
          · subst e; exact c
          · exact ha i e
        · refine Or.inr ⟨a0, ⟨i, by omega, i2⟩, fun q hq hmq => ?_⟩
          rcases Nat.eq_or_lt_of_le (show q ≤ k by omega) with e | e
          · subst e; exact absurd c hmq
          · exact hall q e hmq
      · have ea : (a + 1).toInt = a.toInt + 1 := fb_addI (by omega) (by omega)
        rw [if_neg c, if_neg c, if_neg c]
        refine ⟨⟨by show 0 ≤ (a + 1).toInt; omega, by show (a + 1).toInt ≤ _; rw [ea]; omega⟩, Or.inr ⟨by show ¬ (a + 1).toInt = 0; omega, ⟨k, by omega, c⟩, ?_⟩⟩
        show ∀ i, i < k + 1 → ¬ vE X i = -2000000005 → (if a = 0 then vE X k else if lo ≤ vE X k then lo else vE X k).toInt ≤ (vE X i).toInt ∧ (vE X i).toInt ≤ (if a = 0 then vE X k else if vE X k ≤ hi then hi else vE X k).toInt
        rcases s4' with ⟨a0, ha⟩ | ⟨a0, -, hall⟩
        · have az : a = 0 := by rw [i_eq]; exact a0
          rw [if_pos az, if_pos az]
          intro q hq hmq
          rcases Nat.eq_or_lt_of_le (show q ≤ k by omega) with e | e
          · subst e; exact ⟨Int.le_refl _, Int.le_refl _⟩
          · exact absurd (ha q e) hmq
        · have az : ¬ a = 0 := fun z => a0 (by rw [z]; rfl)
          rw [if_neg az, if_neg az]
          intro q hq hmq
          refine ⟨?_, ?_⟩
          · by_cases d : lo ≤ vE X k
            · rw [if_pos d]
              rw [i_le] at d
              rcases Nat.eq_or_lt_of_le (show q ≤ k by omega) with e | e
              · subst e; exact d
              · exact (hall q e hmq).1
            · rw [if_neg d]
              rw [i_le] at d
              rcases Nat.eq_or_lt_of_le (show q ≤ k by omega) with e | e
              · subst e; exact Int.le_refl _
              · have := (hall q e hmq).1; omega
          · by_cases d : vE X k ≤ hi
            · rw [if_pos d]
              rw [i_le] at d
              rcases Nat.eq_or_lt_of_le (show q ≤ k by omega) with e | e
              · subst e; exact d
              · exact (hall q e hmq).2
            · rw [if_neg d]
              rw [i_le] at d
              rcases Nat.eq_or_lt_of_le (show q ≤ k by omega) with e | e
              · subst e; exact Int.le_refl _
              · have := (hall q e hmq).2; omega
  obtain ⟨⟨lo, hi, cnt, y⟩, l2, hy, hcnt⟩ := hmain
  obtain rfl : y = 1 := hy
  refine ⟨X', ?_, hI', ?_, ?_, hn'⟩
  · -- the volumes
    have j574 : ∀ t : Int64, (X'.2 0 8 = X.2 0 8 + (if t ≤ 0 then 0 else t)) → (X'.2 0 9 = X.2 0 9 - (if (0 : Int64) ≤ t then 0 else t)) → f_L_closes_J574 (X.2 0 8) (X.2 0 9) X' t = some (1, X') := fun t q1 q2 => by
      unfold f_L_closes_J574
      rw [lk_v0, ob1_s, ob1_if, if_pos q1, lk_v1, ob1_s, ob1_if, if_pos q2]
    have v0 : X1.2 0 8 = X.2 0 8 := congrFun (congrFun hJ1.2 0) 8
    have v1 : X1.2 0 9 = X.2 0 9 := congrFun (congrFun hJ1.2 0) 9
    have z3 : X1.1 0 6 = X.1 0 6 := congrFun (hJ1.1 0 (by decide)) 6
    unfold f_L_closes
    rw [lk_0, hn.2, ob1_s, w1, ob2_s, lk_3, ob1_s, lk_v0, ob1_s, lk_v1, ob1_s, l1, ob2_s, e1, ob2_s, if_neg wno, if_pos rfl, lk_3, ob1_s, if_pos (show X'.1 0 6 = X1.1 0 6 + 1 by rw [c5, z3]), t2, ob1_s, if_pos rfl, r0, ob1_s, if_pos rfl, ob1_s, l2, v0, v1]
    show (ob1 _ fun y_55 => _) = _
    rcases c13 with ⟨q, d1, d2, d3, d4, d5⟩ | ⟨q, hA, d1, d2, d3, d4⟩
    · have ew : wbX X = -2000000005 := if_pos q
      have hz : cnt = 0 := by
        rcases hcnt with ⟨z, -⟩ | ⟨-, ⟨i, i1, i2⟩, -⟩
        · exact z
        · exact absurd (if_pos q) i2
      show (ob1 (if wbX X = (-2000000005 : Int32) then some (0 : Int64) else _) fun y_55 => if (1 : Int32) = 0 then _ else (if cnt = (0 : Int32) then (if wbX X = (-2000000005 : Int32) then (ob1 (f_X10_round (0 : Int32) (1 : Int32) X') fun r_64 => if r_64 = (-2000000005 : Int32) then f_L_closes_J574 (X.2 0 8) (X.2 0 9) X' y_55 else _) else _) else _)) = _
      rw [if_pos ew, ob1_s, if_neg one_0, if_pos hz, if_pos ew, r1, ob1_s, if_pos d1, j574]
      · rw [d4, if_pos (by decide), Int64.add_zero]
      · rw [d5, if_pos (by decide), Int64.sub_zero]
    · have ew : ¬ wbX X = -2000000005 := by
        unfold wbX
        rw [if_neg q]
        exact hA.nn.1
      have ewb : wbX X = rvX X (X.1 13 1) := if_neg q
      have oN : ∀ i, i < 4 → asF X (X.1 13 1) i = true → i < n := fun i hi hf => by
        rcases Nat.lt_or_ge i n with z | z
        · exact z
        · exfalso
          obtain ⟨⟨n', hA'⟩, -⟩ := hR.pg
          obtain rfl : n' = n := (nI_eq (by have := hA'.1; omega) (by omega)).mp (hA'.2.1.symm.trans hn.2)
          unfold asF at hf
          rw [Bool.or_eq_true] at hf
          rcases hf with u | u
          · have := (outc_0 (sk := X.1 13 1)).mpr (sh_0 hA' i z hi)
            rcases acc_if.mp u with w | w
            · rw [this] at w; exact absurd w (by decide)
            · rw [this] at w; exact absurd w (by decide)
          · exact (sub_no u).2 (hA'.2.2.2.2 i z hi).2.1
      have evv : ∀ i, i < 4 → asF X (X.1 13 1) i = true → ¬ vE X i = -2000000005 ∧ vE X i = vv X (X.1 13 1) i := fun i hi hf => by
        rcases vE_no hc hi with ⟨-, u, u2⟩ | ⟨u, -, -, u2, -⟩
        · exfalso
          unfold asF at hf
          rw [Bool.or_eq_true] at hf
          rcases hf with w | w
          · exact u w
          · exact u2 (by unfold sbF; rw [decide_eq_true q, w]; rfl)
        · exact ⟨u, u2⟩
      have hz : ¬ cnt = 0 ∧ ∀ i, i < n → ¬ vE X i = -2000000005 → lo.toInt ≤ (vE X i).toInt ∧ (vE X i).toInt ≤ hi.toInt := by
        rcases hcnt with ⟨-, z⟩ | ⟨z, -, z2⟩
        · exfalso
          obtain ⟨i, i1, i2⟩ := hA.2.2.2.2.2
          have hf : asF X (X.1 13 1) i = true := by unfold asF; rw [i2]; rfl
          exact (evv i i1 hf).1 (z i (oN i i1 hf))
        · exact ⟨z, z2⟩
      have hmn := hA.mean (a := lo.toInt) (b := hi.toInt) (fun i hi hf => by
        obtain ⟨u1, u2⟩ := evv i hi hf
        rw [← u2]
        exact hz.2 i (oN i hi hf) u1)
      have s13 : f_X10_total 13 X' = some (X.1 13 3) := (lk_s (X := X') (q := 3) (by decide)).trans (by rw [c6])
      have s14 : f_X10_total 14 X' = some (X.1 13 4) := (lk_s (X := X') (q := 4) (by decide)).trans (by rw [c6])
      show (ob1 (if wbX X = (-2000000005 : Int32) then some (0 : Int64) else (ob1 (f_X10_total (13 : Int32) X') fun r_56 => ob1 (f_X10_total (14 : Int32) X') fun r_57 => some ((((Int32.toInt64 (wbX X)) * (Int32.toInt64 r_56)) * (Int32.toInt64 r_57)) / (1000 : Int64)))) fun y_55 => if (1 : Int32) = 0 then _ else (if cnt = (0 : Int32) then _ else (ob1 (f_X10_round (0 : Int32) (1 : Int32) X') fun r_62 => if r_62 < lo then _ else (ob1 (f_X10_round (0 : Int32) (1 : Int32) X') fun r_63 => if hi < r_63 then _ else f_L_closes_J574 (X.2 0 8) (X.2 0 9) X' y_55)))) = _
      have et : Int32.toInt64 (wbX X) * Int32.toInt64 (X.1 13 3) * Int32.toInt64 (X.1 13 4) / (1000 : Int64) = tV X := by rw [ewb]; rfl
      rw [if_neg ew, s13, ob1_s, s14, ob1_s, ob1_s, if_neg one_0, if_neg hz.1, r1, ob1_s, if_neg (show ¬ X'.1 16 1 < lo by rw [d1, i_lt]; omega), ob1_s, if_neg (show ¬ hi < X'.1 16 1 by rw [d1, i_lt]; omega), et, j574]
      · rcases d4 with ⟨u, u1, -⟩ | ⟨u, u1, -⟩
        · rw [u1, if_pos u, Int64.add_zero]
        · rw [u1, if_neg u]
      · rcases d4 with ⟨u, -, u1⟩ | ⟨u, -, u1⟩
        · rw [u1]
          by_cases d : (0 : Int64) ≤ tV X
          · have t0 : tV X = 0 := by
              rw [j_le] at u d
              rw [j_eq]
              omega
            rw [if_pos d, t0]
          · rw [if_neg d]
        · have d : (0 : Int64) ≤ tV X := by
            rw [j_le] at u ⊢
            omega
          rw [u1, if_pos d, Int64.sub_zero]
  · obtain ⟨c, q1, q2, q3⟩ := hT
    exact ⟨c, q1, q2, hpM.tr q3⟩
  · exact (fun k a => ⟨(hS k a).1.trans (hJM.1 k (by omega)), (hS k a).2.trans (congrFun hJM.2 k)⟩)

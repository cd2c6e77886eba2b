/-! COPIES OF STATES, on both sides -/
def APT (a0 a1 : Nat) : Prop := a0 + 28 ≤ a1 ∨ a1 + 28 ≤ a0
/-- M' is M, but that the slots S (longs T) of the state at a0 are those of the state at a1 -/
def CP (a0 a1 : Nat) (S : Nat → Nat → Bool) (T : Nat → Bool) (M M' : Mm) : Prop :=
  (∀ k j, M'.1 k j = if a0 ≤ k ∧ k < a0 + 28 ∧ S (k - a0) j = true then M.1 (a1 + (k - a0)) j else M.1 k j) ∧
  ∀ k j, M'.2 k j = if k = a0 ∧ T j = true then M.2 a1 j else M.2 k j
theorem CP.rf {a0 a1 : Nat} {M : Mm} : CP a0 a1 (fun _ _ => false) (fun _ => false) M M := by
  constructor <;> intros <;> simp
theorem CP.src {a0 a1 : Nat} {S : Nat → Nat → Bool} {T : Nat → Bool} {M M' : Mm} (h : CP a0 a1 S T M M') (ha : APT a0 a1) {o : Nat} (ho : o < 28) {j : Nat} : M'.1 (a1 + o) j = M.1 (a1 + o) j := by
  rw [h.1, if_neg]
  rintro ⟨h1, h2, -⟩
  unfold APT at ha
  omega
theorem CP.cc {a0 a1 : Nat} {S : Nat → Nat → Bool} {T : Nat → Bool} {M M' : Mm} (h : CP a0 a1 S T M M') (ha : APT a0 a1) {o n : Nat} (ho : o < 28) : CP a0 a1 (fun q j => S q j || (q == o && decide (j < n))) T M (wC M' (a0 + o) (a1 + o) n) := by
  refine ⟨fun k j => ?_, h.2⟩
  show (if k = a0 + o ∧ j < n then M'.1 (a1 + o) j else M'.1 k j) = _
  have e : ∀ q, (S q j || (q == o && decide (j < n))) = true ↔ S q j = true ∨ (q = o ∧ j < n) := fun q => by simp
  by_cases hk : k = a0 + o ∧ j < n
  · obtain ⟨rfl, hj⟩ := hk
    rw [if_pos ⟨rfl, hj⟩, h.src ha ho, Nat.add_sub_cancel_left, if_pos ⟨by omega, by omega, (e o).mpr (Or.inr ⟨rfl, hj⟩)⟩]
  · rw [if_neg hk, h.1]
    by_cases c : a0 ≤ k ∧ k < a0 + 28 ∧ S (k - a0) j = true
    · rw [if_pos c, if_pos ⟨c.1, c.2.1, (e _).mpr (Or.inl c.2.2)⟩]
    · rw [if_neg c, if_neg]
      rintro ⟨c1, c2, c3⟩
      rcases (e _).mp c3 with q | q
      · exact c ⟨c1, c2, q⟩
      · exact hk ⟨by omega, q.2⟩
theorem CP.ci {a0 a1 : Nat} {S : Nat → Nat → Bool} {T : Nat → Bool} {M M' : Mm} (h : CP a0 a1 S T M M') (ha : APT a0 a1) {o i : Nat} (ho : o < 28) : CP a0 a1 (fun q j => S q j || (q == o && j == i)) T M (wI M' (a0 + o) i (gI M' (a1 + o) i)) := by
  refine ⟨fun k j => ?_, h.2⟩
  show (if k = a0 + o ∧ j = i then M'.1 (a1 + o) i else M'.1 k j) = _
  have e : ∀ q, (S q j || (q == o && j == i)) = true ↔ S q j = true ∨ (q = o ∧ j = i) := fun q => by simp
  by_cases hk : k = a0 + o ∧ j = i
  · obtain ⟨rfl, rfl⟩ := hk
    rw [if_pos ⟨rfl, rfl⟩, h.src ha ho, Nat.add_sub_cancel_left, if_pos ⟨by omega, by omega, (e o).mpr (Or.inr ⟨rfl, rfl⟩)⟩]
  · rw [if_neg hk, h.1]
    by_cases c : a0 ≤ k ∧ k < a0 + 28 ∧ S (k - a0) j = true
    · rw [if_pos c, if_pos ⟨c.1, c.2.1, (e _).mpr (Or.inl c.2.2)⟩]
    · rw [if_neg c, if_neg]
      rintro ⟨c1, c2, c3⟩
      rcases (e _).mp c3 with q | q
      · exact c ⟨c1, c2, q⟩
      · exact hk ⟨by omega, q.2⟩
theorem CP.cj {a0 a1 : Nat} {S : Nat → Nat → Bool} {T : Nat → Bool} {M M' : Mm} (h : CP a0 a1 S T M M') (ha : APT a0 a1) {i : Nat} : CP a0 a1 S (fun j => T j || j == i) M (wJ M' a0 i (gJ M' a1 i)) := by
  refine ⟨h.1, fun k j => ?_⟩
  show (if k = a0 ∧ j = i then M'.2 a1 i else M'.2 k j) = _
  have e : (T j || j == i) = true ↔ T j = true ∨ j = i := by simp
  have hs : ∀ j, M'.2 a1 j = M.2 a1 j := fun j => by
    rw [h.2, if_neg]
    rintro ⟨h1, -⟩
    unfold APT at ha
    omega
  by_cases hk : k = a0 ∧ j = i
  · obtain ⟨rfl, rfl⟩ := hk
    rw [if_pos ⟨rfl, rfl⟩, hs, if_pos ⟨rfl, e.mpr (Or.inr rfl)⟩]
  · rw [if_neg hk, h.2]
    by_cases c : k = a0 ∧ T j = true
    · rw [if_pos c, if_pos ⟨c.1, e.mpr (Or.inl c.2)⟩]
    · rw [if_neg c, if_neg]
      rintro ⟨c1, c2⟩
      rcases e.mp c2 with q | q
      · exact c ⟨c1, q⟩
      · exact hk ⟨c1, q⟩
theorem CP.same {a0 a1 : Nat} {S S' : Nat → Nat → Bool} {T T' : Nat → Bool} {M M' : Mm} (h : CP a0 a1 S T M M') (hS : ∀ o, o < 28 → ∀ j, S o j = S' o j) (hT : ∀ j, T j = T' j) : CP a0 a1 S' T' M M' := by
  refine ⟨fun k j => ?_, fun k j => by rw [h.2, hT]⟩
  rw [h.1]
  by_cases c : a0 ≤ k ∧ k < a0 + 28
  · rw [hS (k - a0) (by omega)]
  · rw [if_neg (fun q => c ⟨q.1, q.2.1⟩), if_neg (fun q => c ⟨q.1, q.2.1⟩)]
/-- fields copied one by one are a row copied -/
theorem wC_0 {M : Mm} {p q : Nat} : wI M p 0 (gI M q 0) = wC M p q 1 := by
  refine Prod.ext (funext fun b => funext fun j => ?_) rfl
  show (if b = p ∧ j = 0 then M.1 q 0 else M.1 b j) = if b = p ∧ j < 1 then M.1 q j else M.1 b j
  by_cases h : b = p ∧ j = 0
  · rw [if_pos h, if_pos ⟨h.1, by omega⟩, h.2]
  · rw [if_neg h, if_neg (fun c => h ⟨c.1, by omega⟩)]
theorem wC_s {M : Mm} {p q n : Nat} (h : q ≠ p) : wI (wC M p q n) p n (gI (wC M p q n) q n) = wC M p q (n + 1) := by
  refine Prod.ext (funext fun b => funext fun j => ?_) rfl
  show (if b = p ∧ j = n then (if q = p ∧ n < n then M.1 q n else M.1 q n) else if b = p ∧ j < n then M.1 q j else M.1 b j) = if b = p ∧ j < n + 1 then M.1 q j else M.1 b j
  rw [ite_self]
  by_cases h1 : b = p ∧ j = n
  · rw [if_pos h1, if_pos ⟨h1.1, by omega⟩, h1.2]
  · rw [if_neg h1]
    by_cases h2 : b = p ∧ j < n
    · rw [if_pos h2, if_pos ⟨h2.1, by omega⟩]
    · rw [if_neg h2, if_neg (fun c => by
        rcases Nat.lt_or_ge j n with q | q
        · exact h2 ⟨c.1, q⟩
        · exact h1 ⟨c.1, by omega⟩)]
theorem cp5 {M : Mm} {p q : Nat} (h : q ≠ p) : f_X5_copyFrom p q M = some (wC M p q 6) := by
  unfold f_X5_copyFrom
  simp only [lt1_s, wC_0, wC_s h]
theorem cp7 {M : Mm} {p q : Nat} (h : q ≠ p) (hz : bz (M.1 q 0) = true) : f_X7_copyFrom p q M = some (wC M p q 4) := by
  unfold f_X7_copyFrom
  rw [chk_p (show bz (gI M q 0) = true from hz)]
  simp only [lt1_s, wC_0, wC_s h]
theorem cp3 {M : Mm} {p q : Nat} (h : q ≠ p) (h2 : q + 1 ≠ p) (hz5 : bz (M.1 q 5) = true) (hz8 : bz (M.1 q 8) = true) (hz : bz (M.1 (q + 1) 0) = true) : f_X3_copyFrom p q M = some (wC (wC M p q 15) (p + 1) (q + 1) 4) := by
  have g : ∀ n j, gI (wC M p q n) q j = M.1 q j := fun n j => by
    show (if q = p ∧ j < n then M.1 q j else M.1 q j) = _
    rw [ite_self]
  have g1 : ∀ n j, (wC M p q n).1 (q + 1) j = M.1 (q + 1) j := fun n j => by
    show (if q + 1 = p ∧ j < n then M.1 q j else M.1 (q + 1) j) = _
    rw [if_neg (fun c => h2 c.1)]
  have e : f_X3_begin p (gI M q 0) (gI M q 1) (gI M q 2) (gI M q 3) (gI M q 4) M = some (wC M p q 5) := by
    unfold f_X3_begin
    simp only [lt1_s, wC_0]
    have s : ∀ n, wI (wC M p q n) p n (gI M q n) = wC M p q (n + 1) := fun n => by
      have := wC_s (M := M) (p := p) (q := q) (n := n) h
      rw [g] at this
      exact this
    simp only [s]
  unfold f_X3_copyFrom
  rw [e, ob1_s]
  have hz5' : bz (gI (wC M p q 5) q 5) = true := by rw [g]; exact hz5
  have hz8' : bz (gI (wC M p q 8) q 8) = true := by rw [g]; exact hz8
  simp only [lt1_s, wC_s h, Nat.reduceAdd, chk_p hz5', chk_p hz8']
  rw [cp7 (fun c => h (Nat.add_right_cancel c)) (by rw [g1]; exact hz)]
  rfl
theorem rid50 {a i : Nat} (hi : i < 4) : rid 50 (a + 1) (ix (nI i)) = a + (2 + 2 * i) := by
  rw [ix_n (by omega)]
  show a + 1 + 1 + 2 * i = _
  omega
theorem rid51 {a i : Nat} (hi : i < 12) : rid 51 (a + 14 + 1) (ix (nI i)) = a + (16 + i) := by
  rw [ix_n (by omega)]
  show a + 14 + 1 + 1 + i = _
  omega
/-- what a copy asks of its source: its truth values are 0 or 1 -/
def BZ (M : Mm) (a : Nat) : Prop := (∀ i, i < 4 → bz (M.1 (a + (2 + 2 * i)) 5) = true ∧ bz (M.1 (a + (2 + 2 * i)) 8) = true ∧ bz (M.1 (a + (3 + 2 * i)) 0) = true) ∧ bz (M.1 a 4) = true
theorem PG_bz {M : Mm} {a : Nat} {J : Nat → Int64} {P : Nat → Int32} {V : Nat → Int64} (h : PG (vI M a) J P V) : BZ M a := by
  obtain ⟨⟨n, h1, h2, h3, h4, h5⟩, -, -, -, ⟨-, hz⟩, -⟩ := h
  have z0 : bz (0 : Int32) = true := rfl
  have z1 : bz (1 : Int32) = true := rfl
  refine ⟨fun i hi => ?_, ?_⟩
  · rcases Nat.lt_or_ge i n with q | q
    · obtain ⟨-, -, a5, a8, -, s0⟩ := h4 i q
      refine ⟨?_, ?_, ?_⟩
      · rcases a5 with c | c
        · exact (congrArg bz c.1).trans z0
        · exact (congrArg bz c.1).trans z1
      · rcases a8 with c | c
        · exact (congrArg bz c.1).trans z0
        · exact (congrArg bz c.1).trans z1
      · rcases s0 with c | c
        · exact (congrArg bz c.1).trans z0
        · exact (congrArg bz c.1).trans z1
    · obtain ⟨c5, c8, -, -, -, -, -, c0⟩ := h5 i q hi
      exact ⟨(congrArg bz c5).trans z0, (congrArg bz c8).trans z0, (congrArg bz c0).trans z0⟩
  · rcases hz with c | c
    · exact (congrArg bz c).trans z0
    · exact (congrArg bz c).trans z1
theorem cp6 {a0 a1 : Nat} {S : Nat → Nat → Bool} {T : Nat → Bool} {M M' : Mm} (h : CP a0 a1 S T M M') (ha : APT a0 a1) : ∃ M2, f_X6_copyFrom (a0 + 14) (a1 + 14) M' = some M2 ∧ CP a0 a1 (fun q j => S q j || ((16 ≤ q && q < 28 && j < 6) || (q == 14 && j == 1))) T M M2 := by
  obtain ⟨b, hb, hP⟩ := lpUp (L := fun f x s => f_X6_copyFrom_L2 (a0 + 14) (a1 + 14) f x s) 12 (fun i s => CP a0 a1 (fun q j => S q j || (16 ≤ q && q < 16 + i && j < 6)) T M s) (fun b => CP a0 a1 (fun q j => S q j || (16 ≤ q && q < 28 && j < 6)) T M b)
    (fun f s hs => ⟨s, by rw [f_X6_copyFrom_L2, if_pos (show (12 : Int32) ≤ nI 12 by decide)], hs⟩)
    (fun f i s hi hs => by
      refine Or.inr ⟨wC s (a0 + (16 + i)) (a1 + (16 + i)) 6, ?_, ?_⟩
      · refine (hs.cc ha (by omega)).same (fun o ho j => ?_) (fun _ => rfl)
        rw [Bool.eq_iff_iff]
        simp only [Bool.or_eq_true, Bool.and_eq_true, decide_eq_true_eq, beq_iff_eq]
        constructor
        · rintro ((c | c) | c)
          · exact Or.inl c
          · exact Or.inr ⟨⟨c.1.1, by omega⟩, c.2⟩
          · exact Or.inr ⟨⟨by omega, by omega⟩, c.2⟩
        · rintro (c | c)
          · exact Or.inl (Or.inl c)
          · by_cases e : o = 16 + i
            · exact Or.inr ⟨e, c.2⟩
            · exact Or.inl (Or.inr ⟨⟨c.1.1, by omega⟩, c.2⟩)
      · rw [f_X6_copyFrom_L2, if_neg (show ¬ (12 : Int32) ≤ nI i from nI_ge hi (by decide)), chk_p (inb_n hi (by decide)), chk_p (inb_n hi (by decide)), rid51 hi, rid51 hi, cp5 (by unfold APT at ha; omega), ob1_s, lt1_s, nI_succ])
    (by decide) (s := M') (h.same (fun o ho j => by
      rw [Bool.eq_iff_iff]
      simp only [Bool.or_eq_true, Bool.and_eq_true, decide_eq_true_eq]
      constructor
      · exact Or.inl
      · rintro (c | c)
        · exact c
        · omega) (fun _ => rfl))
  refine ⟨wI b (a0 + 14) 1 (gI b (a1 + 14) 1), ?_, ?_⟩
  · unfold f_X6_copyFrom
    rw [hb]
    rfl
  · refine (hP.ci ha (by decide)).same (fun o ho j => ?_) (fun _ => rfl)
    exact Bool.or_assoc _ _ _
theorem cp8 {a0 a1 : Nat} {M : Mm} (ha : APT a0 a1) (hz : BZ M a1) : ∃ M2, f_X8_copyFrom a0 a1 M = some M2 ∧ CP a0 a1 cov (fun j => j == 8 || j == 9) M M2 := by
  obtain ⟨b, hb, hP⟩ := lpUp (L := fun f x s => f_X8_copyFrom_L2 a0 a1 f x s) 4 (fun i s => CP a0 a1 (fun q j => (2 ≤ q && q < 2 + 2 * i && q % 2 == 0 && j < 15) || (3 ≤ q && q < 2 + 2 * i && q % 2 == 1 && j < 4)) (fun _ => false) M s) (fun b => CP a0 a1 (fun q j => (2 ≤ q && q < 10 && q % 2 == 0 && j < 15) || (3 ≤ q && q < 10 && q % 2 == 1 && j < 4)) (fun _ => false) M b)
    (fun f s hs => ⟨s, by rw [f_X8_copyFrom_L2, if_pos (show (4 : Int32) ≤ nI 4 by decide)], hs⟩)
    (fun f i s hi hs => by
      refine Or.inr ⟨wC (wC s (a0 + (2 + 2 * i)) (a1 + (2 + 2 * i)) 15) (a0 + (3 + 2 * i)) (a1 + (3 + 2 * i)) 4, ?_, ?_⟩
      · refine ((hs.cc ha (by omega)).cc ha (by omega)).same (fun o ho j => ?_) (fun _ => rfl)
        rw [Bool.eq_iff_iff]
        simp only [Bool.or_eq_true, Bool.and_eq_true, decide_eq_true_eq, beq_iff_eq]
        constructor
        · rintro (((c | c) | c) | c)
          · exact Or.inl ⟨⟨⟨c.1.1.1, by omega⟩, c.1.2⟩, c.2⟩
          · exact Or.inr ⟨⟨⟨c.1.1.1, by omega⟩, c.1.2⟩, c.2⟩
          · exact Or.inl ⟨⟨⟨by omega, by omega⟩, by omega⟩, c.2⟩
          · exact Or.inr ⟨⟨⟨by omega, by omega⟩, by omega⟩, c.2⟩
        · rintro (c | c)
          · by_cases e : o = 2 + 2 * i
            · exact Or.inl (Or.inr ⟨e, c.2⟩)
            · exact Or.inl (Or.inl (Or.inl ⟨⟨⟨c.1.1.1, by omega⟩, c.1.2⟩, c.2⟩))
          · by_cases e : o = 3 + 2 * i
            · exact Or.inr ⟨e, c.2⟩
            · exact Or.inl (Or.inl (Or.inr ⟨⟨⟨c.1.1.1, by omega⟩, c.1.2⟩, c.2⟩))
      · have e3 : ∀ a : Nat, a + (2 + 2 * i) + 1 = a + (3 + 2 * i) := fun a => by omega
        obtain ⟨z5, z8, z0⟩ := hz.1 i hi
        rw [f_X8_copyFrom_L2, if_neg (show ¬ (4 : Int32) ≤ nI i from nI_ge hi (by decide)), chk_p (inb_n hi (by decide)), chk_p (inb_n hi (by decide)), rid50 hi, rid50 hi, cp3 (by unfold APT at ha; omega) (by unfold APT at ha; omega) (by rw [hs.src ha (by omega)]; exact z5) (by rw [hs.src ha (by omega)]; exact z8) (by rw [e3, hs.src ha (by omega)]; exact z0), ob1_s, lt1_s, nI_succ, e3, e3])
    (by decide) (s := M) (CP.rf.same (fun o ho j => by
      symm
      rw [Bool.eq_false_iff]
      simp only [ne_eq, Bool.or_eq_true, Bool.and_eq_true, decide_eq_true_eq, beq_iff_eq]
      omega) (fun _ => rfl))
  have h1 := hP.ci ha (o := 0) (i := 1) (by decide)
  have h2 := ((h1.cc ha (o := 11) (n := 6) (by decide)).cc ha (o := 12) (n := 6) (by decide)).ci ha (o := 10) (i := 2) (by decide)
  have h3 := (h2.cc ha (o := 13) (n := 5) (by decide)).ci ha (o := 0) (i := 4) (by decide)
  obtain ⟨M3, e3, h4⟩ := cp6 h3 ha
  have h5 := (((h4.ci ha (o := 0) (i := 6) (by decide)).ci ha (o := 0) (i := 7) (by decide)).cj ha (i := 8)).cj ha (i := 9)
  refine ⟨_, ?_, h5.same (fun o ho j => ?_) (fun j => by simp)⟩
  · unfold f_X8_copyFrom
    have z4 := (h2.cc ha (o := 13) (n := 5) (by decide)).src ha (o := 0) (j := 4) (by decide)
    rw [hb, ob1_s, lt1_s]
    unfold f_X4_copyFrom
    simp only [lt1_s, ob1_s]
    refine (chk_p (show bz (gI _ a1 4) = true from (congrArg bz z4).trans hz.2)).trans ?_
    refine (congrArg (fun z => ob1 z _) (show f_X6_copyFrom (a0 + 14) (a1 + 14) _ = some M3 from e3)).trans ?_
    rfl
  · rcases Nat.lt_or_ge j 16 with q | q
    · revert q
      revert j
      revert ho
      revert o
      decide +kernel
    · have e15 : decide (j < 15) = false := decide_eq_false (by omega)
      have e4 : decide (j < 4) = false := decide_eq_false (by omega)
      have e6 : decide (j < 6) = false := decide_eq_false (by omega)
      have e5 : decide (j < 5) = false := decide_eq_false (by omega)
      have b1 : (j == 1) = false := beq_false_of_ne (by omega)
      have b2 : (j == 2) = false := beq_false_of_ne (by omega)
      have b4 : (j == 4) = false := beq_false_of_ne (by omega)
      have b6 : (j == 6) = false := beq_false_of_ne (by omega)
      have b7 : (j == 7) = false := beq_false_of_ne (by omega)
      unfold cov
      simp only [e15, e4, e6, e5, b1, b2, b4, b6, b7, Bool.and_false, Bool.or_false]

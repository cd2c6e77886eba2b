/-! STATISTICS: ranks on one side, a sorted row on the other -/
def si (φ : Int32 → Int) (g : Nat → Int32) : Nat → Int
  | 0 => 0
  | k + 1 => si φ g k + φ (g k)
def sx (n : Nat) (R : Nat → Int32) (φ : Int32 → Int) : Nat → Int
  | 0 => 0
  | k + 1 => sx n R φ k + (if k < n ∧ ¬ R k = -2000000005 then φ (R k) else 0)
def le1 (v : Int32) : Int32 → Int := fun x => if x ≤ v then 1 else 0
theorem le1_r {v x : Int32} : 0 ≤ le1 v x ∧ le1 v x ≤ 1 := by
  unfold le1
  by_cases h : x ≤ v
  · rw [if_pos h]; decide
  · rw [if_neg h]; decide
theorem sx_tail {n : Nat} {R : Nat → Int32} {φ : Int32 → Int} : ∀ m, sx n R φ (n + m) = sx n R φ n := by
  intro m
  induction m with
  | zero => rfl
  | succ m ih =>
    show sx n R φ (n + m) + (if n + m < n ∧ ¬ R (n + m) = -2000000005 then φ (R (n + m)) else 0) = _
    rw [ih, if_neg (by omega), Int.add_zero]
theorem sx_12 {n : Nat} (hn : n ≤ 12) {R : Nat → Int32} {φ : Int32 → Int} : sx n R φ 12 = sx n R φ n := by
  obtain ⟨m, hm⟩ : ∃ m, 12 = n + m := ⟨12 - n, by omega⟩
  rw [hm]
  exact sx_tail m
theorem sx_rng {n : Nat} {R : Nat → Int32} {v : Int32} : ∀ k : Nat, 0 ≤ sx n R (le1 v) k ∧ sx n R (le1 v) k ≤ k := by
  intro k
  induction k with
  | zero => exact ⟨Int.le_refl 0, Int.le_refl 0⟩
  | succ k ih =>
    show 0 ≤ sx n R (le1 v) k + _ ∧ sx n R (le1 v) k + _ ≤ _
    have h := le1_r (v := v) (x := R k)
    by_cases c : k < n ∧ ¬ R k = -2000000005
    · rw [if_pos c]; omega
    · rw [if_neg c]; omega
theorem sx_mono {n : Nat} {R : Nat → Int32} {φ ψ : Int32 → Int} (h : ∀ x, φ x ≤ ψ x) : ∀ k : Nat, sx n R φ k ≤ sx n R ψ k := by
  intro k
  induction k with
  | zero => exact Int.le_refl _
  | succ k ih =>
    show sx n R φ k + _ ≤ sx n R ψ k + _
    have := h (R k)
    by_cases c : k < n ∧ ¬ R k = -2000000005
    · rw [if_pos c, if_pos c]; omega
    · rw [if_neg c, if_neg c]; omega
theorem le1_mono {v w : Int32} (h : v ≤ w) : ∀ x, le1 v x ≤ le1 w x := fun x => by
  unfold le1
  by_cases c : x ≤ v
  · rw [if_pos c, if_pos (by rw [i_le] at *; omega)]; decide
  · rw [if_neg c]
    by_cases c2 : x ≤ w
    · rw [if_pos c2]; decide
    · rw [if_neg c2]; decide
theorem sx_ex {n : Nat} {R : Nat → Int32} {φ : Int32 → Int} : ∀ k : Nat, ¬ sx n R φ k = 0 → ∃ i, i < k ∧ i < n ∧ ¬ R i = -2000000005 ∧ ¬ φ (R i) = 0 := by
  intro k
  induction k with
  | zero => intro h; exact absurd rfl h
  | succ k ih =>
    intro h
    by_cases c : k < n ∧ ¬ R k = -2000000005
    · by_cases c2 : φ (R k) = 0
      · obtain ⟨i, h1, h2⟩ := ih (fun q => h (by show sx n R φ k + _ = 0; rw [q, if_pos c, c2]; rfl))
        exact ⟨i, by omega, h2⟩
      · exact ⟨k, by omega, c.1, c.2, c2⟩
    · obtain ⟨i, h1, h2⟩ := ih (fun q => h (by show sx n R φ k + _ = 0; rw [q, if_neg c]; rfl))
      exact ⟨i, by omega, h2⟩
theorem si_congr {φ : Int32 → Int} {g g' : Nat → Int32} : ∀ m : Nat, (∀ k, k < m → g k = g' k) → si φ g m = si φ g' m := by
  intro m
  induction m with
  | zero => intro _; rfl
  | succ m ih =>
    intro h
    show si φ g m + φ (g m) = si φ g' m + φ (g' m)
    rw [ih (fun k hk => h k (by omega)), h m (by omega)]
theorem si_ins {φ : Int32 → Int} {g : Nat → Int32} {a n : Nat} {x : Int32} : ∀ d : Nat, a + d ≤ n → si φ (insA g a n x) (a + d + 1) = si φ g (a + d) + φ x := by
  intro d
  induction d with
  | zero =>
    intro _
    show si φ (insA g a n x) a + φ (insA g a n x a) = si φ g a + φ x
    rw [si_congr (g := insA g a n x) (g' := g) a (fun k hk => by unfold insA; rw [if_neg (by omega), if_neg (by omega)])]
    unfold insA
    rw [if_pos rfl]
  | succ d ih =>
    intro h
    show si φ (insA g a n x) (a + d + 1) + φ (insA g a n x (a + d + 1)) = si φ g (a + d) + φ (g (a + d)) + φ x
    rw [ih (by omega)]
    have e : insA g a n x (a + d + 1) = g (a + d) := by
      unfold insA
      rw [if_neg (by omega), if_pos (by omega)]
      rfl
    rw [e]
    omega
theorem si_cap {φ : Int32 → Int} {g : Nat → Int32} (h1 : ∀ x, 0 ≤ φ x ∧ φ x ≤ 1) {k : Nat} : ∀ m : Nat, (∀ j, k ≤ j → j < m → φ (g j) = 0) → si φ g m ≤ k := by
  intro m
  induction m with
  | zero => intro _; exact Int.natCast_nonneg k
  | succ m ih =>
    intro h
    show si φ g m + φ (g m) ≤ _
    rcases Nat.lt_or_ge m k with q | q
    · have e : ∀ m : Nat, si φ g m ≤ m := fun m => by
        induction m with
        | zero => exact Int.le_refl _
        | succ m ih2 =>
          show si φ g m + φ (g m) ≤ _
          have := (h1 (g m)).2
          omega
      have := e m
      have := (h1 (g m)).2
      omega
    · rw [h m q (by omega)]
      have := ih (fun j h2 h3 => h j h2 (by omega))
      omega
theorem si_low {φ : Int32 → Int} {g : Nat → Int32} (h1 : ∀ x, 0 ≤ φ x ∧ φ x ≤ 1) {k : Nat} : ∀ m : Nat, k < m → (∀ j, j ≤ k → φ (g j) = 1) → (k : Int) + 1 ≤ si φ g m := by
  intro m hm h
  have e : ∀ d : Nat, d ≤ k + 1 → si φ g d = d := fun d => by
    induction d with
    | zero => intro _; rfl
    | succ d ih =>
      intro hd
      show si φ g d + φ (g d) = _
      rw [ih (by omega), h d (by omega)]
      rfl
  have mono : ∀ d : Nat, si φ g (k + 1) ≤ si φ g (k + 1 + d) := fun d => by
    induction d with
    | zero => exact Int.le_refl _
    | succ d ih =>
      show _ ≤ si φ g (k + 1 + d) + φ (g (k + 1 + d))
      have := (h1 (g (k + 1 + d))).1
      omega
  obtain ⟨d, rfl⟩ : ∃ d, m = k + 1 + d := ⟨m - (k + 1), by omega⟩
  have := mono d
  rw [e (k + 1) (by omega)] at this
  omega
theorem si_one {g : Nat → Int32} : ∀ m : Nat, si (fun _ => 1) g m = m := by
  intro m
  induction m with
  | zero => rfl
  | succ m ih =>
    show si _ g m + 1 = _
    rw [ih]
    rfl
/-! the class's counts and ranks -/
def rv (X : Mm) : Nat → Int32 := fun k => X.1 (16 + k) 0
theorem x_meas {X : Mm} {n : Nat} (hn : n ≤ 12) (hc : X.1 14 1 = nI n) {i : Nat} (hi : i < 12) : f_X6_isMeasured (nI i) X = some (if i < n ∧ ¬ rv X i = -2000000005 then 1 else 0) := by
  unfold f_X6_isMeasured
  rw [show gI X 14 1 = nI n from hc, if_neg (show ¬ nI i < 0 from fun z => nI_in (N := 12) hi (by decide) (Or.inl z))]
  by_cases c : i < n
  · rw [if_neg (nI_ge c (by omega)), if_neg (show ¬ (12 : Int32) ≤ nI i from nI_ge hi (by decide)), chk_p (inb_n hi (by decide)), show rid 51 15 (ix (nI i)) = 16 + i from (rid51 (a := 0) hi).trans (Nat.zero_add _)]
    by_cases c2 : rv X i = -2000000005
    · rw [if_pos (show gI X (16 + i) 0 = -2000000005 from c2), if_neg (fun q => q.2 c2)]
    · rw [if_neg (show ¬ gI X (16 + i) 0 = -2000000005 from c2), if_pos ⟨c, c2⟩]
  · rw [if_pos (nI_le (by omega) (by omega)), if_neg (fun q => c q.1)]
theorem x_cu {X : Mm} {n : Nat} (hn : n ≤ 12) (hc : X.1 14 1 = nI n) (v : Int32) : ∃ r, f_X6_countUpTo v X = some r ∧ r.toInt = sx n (rv X) (le1 v) 12 := by
  obtain ⟨b, hb, hP⟩ := lpUp (L := fun f x (s : Int32) => f_X6_countUpTo_L4 X v f s x) 12 (fun i s => s.toInt = sx n (rv X) (le1 v) i) (fun b => b.toInt = sx n (rv X) (le1 v) 12) (fun f s hs => ⟨s, by rw [f_X6_countUpTo_L4, if_pos (show (12 : Int32) ≤ nI 12 by decide)], hs⟩) (fun f i s hi hs => by
    rw [f_X6_countUpTo_L4, if_neg (show ¬ (12 : Int32) ≤ nI i from nI_ge hi (by decide)), x_meas hn hc hi, ob1_s, show rid 51 15 (ix (nI i)) = 16 + i from (rid51 (a := 0) hi).trans (Nat.zero_add _), chk_p (inb_n hi (by decide))]
    have hr := sx_rng (n := n) (R := rv X) (v := v) i
    have e0 : sx n (rv X) (le1 v) (i + 1) = sx n (rv X) (le1 v) i + (if i < n ∧ ¬ rv X i = -2000000005 then le1 v (rv X i) else 0) := rfl
    by_cases c : i < n ∧ ¬ rv X i = -2000000005
    · rw [if_pos c, if_neg one_0]
      by_cases c2 : v < gI X (16 + i) 0
      · rw [if_pos c2, ob1_s, lt1_s, nI_1]
        refine Or.inr ⟨s, ?_, rfl⟩
        have z : ¬ rv X i ≤ v := fun q => by rw [i_lt] at c2; rw [i_le] at q; exact absurd q (by show ¬ (gI X (16 + i) 0).toInt ≤ v.toInt; omega)
        rw [e0, if_pos c, show le1 v (rv X i) = 0 from if_neg z, hs, Int.add_zero]
      · rw [if_neg c2, lt1_s, ob1_s, lt1_s, nI_1]
        refine Or.inr ⟨s + 1, ?_, rfl⟩
        have z : rv X i ≤ v := i_nlt c2
        rw [e0, if_pos c, show le1 v (rv X i) = 1 from if_pos z, ← hs]
        exact fb_addI (by rw [hs]; have : (1 : Int32).toInt = 1 := rfl; omega) (by rw [hs]; have : (1 : Int32).toInt = 1 := rfl; omega)
    · rw [if_neg c, if_pos rfl, ob1_s, lt1_s, nI_1]
      refine Or.inr ⟨s, ?_, rfl⟩
      rw [e0, if_neg c, hs, Int.add_zero]) (by decide) (s := (0 : Int32)) rfl
  refine ⟨b, ?_, hP⟩
  unfold f_X6_countUpTo
  rw [show f_X6_countUpTo_L4 X v 1000 (0 : Int32) (0 : Int32) = some b from hb]
  rfl
theorem x_mc {X : Mm} {n : Nat} (hn : n ≤ 12) (hc : X.1 14 1 = nI n) : ∃ r, f_X6_measuredCount X = some r ∧ r.toInt = sx n (rv X) (fun _ => 1) 12 := by
  have o1 : (1 : Int32).toInt = 1 := rfl
  obtain ⟨b, hb, hP⟩ := lpUp (L := fun f x (s : Int32) => f_X6_measuredCount_L4 X f s x) 12 (fun i s => s.toInt = sx n (rv X) (fun _ => 1) i ∧ 0 ≤ s.toInt ∧ s.toInt ≤ i) (fun b => b.toInt = sx n (rv X) (fun _ => 1) 12) (fun f s hs => ⟨s, by rw [f_X6_measuredCount_L4, if_pos (show (12 : Int32) ≤ nI 12 by decide)], hs.1⟩) (fun f i s hi hs => by
    rw [f_X6_measuredCount_L4, if_neg (show ¬ (12 : Int32) ≤ nI i from nI_ge hi (by decide)), x_meas hn hc hi, ob1_s]
    unfold f_X10_asNumber
    have e0 : sx n (rv X) (fun _ => 1) (i + 1) = sx n (rv X) (fun _ => 1) i + (if i < n ∧ ¬ rv X i = -2000000005 then 1 else 0) := rfl
    by_cases c : i < n ∧ ¬ rv X i = -2000000005
    · rw [if_pos c, if_neg one_0, ob1_s, lt1_s, lt1_s, nI_1]
      have e1 : (s + 1).toInt = s.toInt + 1 := fb_addI (by omega) (by omega)
      exact Or.inr ⟨s + 1, ⟨by rw [e0, if_pos c, e1, hs.1], by omega, by omega⟩, rfl⟩
    · rw [if_neg c, if_pos rfl, ob1_s, lt1_s, lt1_s, nI_1, Int32.add_zero]
      exact Or.inr ⟨s, ⟨by rw [e0, if_neg c, Int.add_zero]; exact hs.1, by omega, by omega⟩, rfl⟩) (by decide) (s := (0 : Int32)) ⟨rfl, by decide, by decide⟩
  refine ⟨b, ?_, hP⟩
  unfold f_X6_measuredCount
  rw [show f_X6_measuredCount_L4 X 1000 (0 : Int32) (0 : Int32) = some b from hb]
  rfl
theorem x_rank {X : Mm} {n : Nat} (hn : n ≤ 12) (hc : X.1 14 1 = nI n) (hb : ∀ k, k < n → rv X k = -2000000005 ∨ -1000000 ≤ rv X k ∧ rv X k ≤ 1000000) {r w : Int32} (hex : ∃ i, i < n ∧ ¬ rv X i = -2000000005 ∧ rv X i = w) (h1 : sx n (rv X) (le1 (w - 1)) 12 ≤ r.toInt) (h2 : r.toInt < sx n (rv X) (le1 w) 12) : f_X6_ranked r X = some w := by
  have e1 : (1 : Int32).toInt = 1 := rfl
  have eb1 : (-1000000 : Int32).toInt = -1000000 := rfl
  have eb2 : (1000000 : Int32).toInt = 1000000 := rfl
  have pre : ∀ i, i < n → ¬ rv X i = -2000000005 → (rv X i - 1).toInt = (rv X i).toInt - 1 := fun i hi hm => by
    rcases hb i hi with q | q
    · exact absurd q hm
    · rw [i_le, i_le] at q
      exact fb_subI (by omega) (by omega)
  have hw : (w - 1).toInt = w.toInt - 1 := by
    obtain ⟨i, q1, q2, q3⟩ := hex
    rw [← q3]
    exact pre i q1 q2
  obtain ⟨b, hb2, rfl⟩ := lpUp (L := fun f x (_ : Unit) => f_X6_ranked_L2 X r f x) 12 (fun i _ => ∀ j, j < i → j < n → ¬ rv X j = -2000000005 → ¬ rv X j = w) (fun b => b = w) (fun f s hs => by
    obtain ⟨i, q1, q2, q3⟩ := hex
    exact absurd q3 (hs i (by omega) q1 q2)) (fun f i s hi hs => by
    rw [f_X6_ranked_L2, if_neg (show ¬ (12 : Int32) ≤ nI i from nI_ge hi (by decide)), x_meas hn hc hi, ob1_s, show rid 51 15 (ix (nI i)) = 16 + i from (rid51 (a := 0) hi).trans (Nat.zero_add _), chk_p (inb_n hi (by decide)), lt1_s, nI_1]
    have next : (i < n ∧ ¬ rv X i = -2000000005 → ¬ rv X i = w) → ∀ j, j < i + 1 → j < n → ¬ rv X j = -2000000005 → ¬ rv X j = w := fun q j hj h3 h4 => by
      rcases Nat.eq_or_lt_of_le (show j ≤ i by omega) with e | e
      · subst e; exact q ⟨h3, h4⟩
      · exact hs j e h3 h4
    by_cases c : i < n ∧ ¬ rv X i = -2000000005
    · rw [if_pos c, if_neg one_0, lt1_s, show gI X (16 + i) 0 = rv X i from rfl]
      obtain ⟨c1, k1, k2⟩ := x_cu hn hc (rv X i - 1)
      obtain ⟨c2, k3, k4⟩ := x_cu hn hc (rv X i)
      rw [k1, ob1_s]
      by_cases d1 : r < c1
      · rw [if_pos d1]
        refine Or.inr ⟨(), next (fun _ q => ?_), rfl⟩
        rw [q] at k2
        rw [i_lt] at d1
        omega
      · rw [if_neg d1, k3, ob1_s]
        by_cases d2 : c2 ≤ r
        · rw [if_pos d2]
          refine Or.inr ⟨(), next (fun _ q => ?_), rfl⟩
          rw [q] at k4
          rw [i_le] at d2
          omega
        · rw [if_neg d2]
          refine Or.inl ⟨_, rfl, ?_⟩
          rw [i_lt] at d1
          rw [i_le] at d2
          have hp := pre i c.1 c.2
          rcases Int.lt_trichotomy (rv X i).toInt w.toInt with q | q | q
          · have := sx_mono (n := n) (R := rv X) (le1_mono (v := rv X i) (w := w - 1) (by rw [i_le]; omega)) 12
            omega
          · rw [i_eq]; exact q
          · have := sx_mono (n := n) (R := rv X) (le1_mono (v := w) (w := rv X i - 1) (by rw [i_le]; omega)) 12
            omega
    · rw [if_neg c, if_pos rfl]
      exact Or.inr ⟨(), next (fun q => absurd q c), rfl⟩) (by decide) (s := ()) (fun j hj => absurd hj (by omega))
  exact hb2
theorem x_avg {X : Mm} {n : Nat} (hn : n ≤ 12) (hc : X.1 14 1 = nI n) (hb : ∀ k, k < n → rv X k = -2000000005 ∨ -1000000 ≤ rv X k ∧ rv X k ≤ 1000000) : ∃ s : Int64, f_X6_average_L4 X 1000 (0 : Int64) (0 : Int32) = some s ∧ s.toInt = sx n (rv X) Int32.toInt 12 ∧ -12000000 ≤ s.toInt ∧ s.toInt ≤ 12000000 := by
  have eb1 : (-1000000 : Int32).toInt = -1000000 := rfl
  have eb2 : (1000000 : Int32).toInt = 1000000 := rfl
  obtain ⟨b, hb2, hP⟩ := lpUp (L := fun f x (s : Int64) => f_X6_average_L4 X f s x) 12 (fun i s => s.toInt = sx n (rv X) Int32.toInt i ∧ -1000000 * (i : Int) ≤ s.toInt ∧ s.toInt ≤ 1000000 * (i : Int)) (fun b => b.toInt = sx n (rv X) Int32.toInt 12 ∧ -12000000 ≤ b.toInt ∧ b.toInt ≤ 12000000) (fun f s hs => ⟨s, by rw [f_X6_average_L4, if_pos (show (12 : Int32) ≤ nI 12 by decide)], hs.1, by omega, by omega⟩) (fun f i s hi hs => by
    rw [f_X6_average_L4, if_neg (show ¬ (12 : Int32) ≤ nI i from nI_ge hi (by decide)), x_meas hn hc hi, ob1_s, show rid 51 15 (ix (nI i)) = 16 + i from (rid51 (a := 0) hi).trans (Nat.zero_add _), chk_p (inb_n hi (by decide))]
    have e0 : sx n (rv X) Int32.toInt (i + 1) = sx n (rv X) Int32.toInt i + (if i < n ∧ ¬ rv X i = -2000000005 then (rv X i).toInt else 0) := rfl
    by_cases c : i < n ∧ ¬ rv X i = -2000000005
    · rw [if_pos c, if_neg one_0, lt1_s, ob1_s, lt1_s, nI_1]
      have q : -1000000 ≤ (rv X i).toInt ∧ (rv X i).toInt ≤ 1000000 := by
        rcases hb i c.1 with z | z
        · exact absurd z c.2
        · rw [i_le, i_le] at z; omega
      have ea : (s + Int32.toInt64 (gI X (16 + i) 0)).toInt = s.toInt + (rv X i).toInt := by
        rw [fb_addL] <;> rw [Int32.toInt_toInt64]
        · rfl
        · show _ ≤ s.toInt + (rv X i).toInt; omega
        · show s.toInt + (rv X i).toInt < _; omega
      refine Or.inr ⟨s + Int32.toInt64 (gI X (16 + i) 0), ⟨?_, ?_, ?_⟩, rfl⟩
      · rw [ea, e0, if_pos c, hs.1]
      · rw [ea]; omega
      · rw [ea]; omega
    · rw [if_neg c, if_pos rfl, ob1_s, lt1_s, nI_1]
      refine Or.inr ⟨s, ⟨?_, by omega, by omega⟩, rfl⟩
      rw [e0, if_neg c, hs.1, Int.add_zero]) (by decide) (s := (0 : Int64)) ⟨rfl, by decide, by decide⟩
  exact ⟨b, hb2, hP⟩
/-! the reference's sorted row -/
def Srt (g : Nat → Int32) (m : Nat) : Prop := ∀ j k, j ≤ k → k < m → g j ≤ g k
theorem y_ins1 {Y : Mm} {m : Nat} (hm : m < 12) (hs : Srt (Y.1 16) m) (v : Int32) : ∃ a N, f_X11_layVelocities_L37 v 1000 (nI m) Y = some (nI a, N) ∧ a ≤ m ∧ (∀ j, N.1 16 j = if a < j ∧ j ≤ m then Y.1 16 (j - 1) else Y.1 16 j) ∧ (∀ j, j < a → Y.1 16 j ≤ v) ∧ (∀ j, a ≤ j → j < m → v ≤ Y.1 16 j) ∧ (∀ q, q ≠ 16 → N.1 q = Y.1 q) ∧ N.2 = Y.2 := by
  obtain ⟨b, hb, a, hb1, hP⟩ := lp (fun f (s : Int32 × Mm) => f_X11_layVelocities_L37 v f s.1 s.2) (fun k (s : Int32 × Mm) => s.1 = nI k ∧ k ≤ m ∧ (∀ j, s.2.1 16 j = if k < j ∧ j ≤ m then Y.1 16 (j - 1) else Y.1 16 j) ∧ (∀ j, k ≤ j → j < m → v ≤ Y.1 16 j) ∧ (∀ q, q ≠ 16 → s.2.1 q = Y.1 q) ∧ s.2.2 = Y.2) (fun (b : Int32 × Mm) => ∃ a, b.1 = nI a ∧ a ≤ m ∧ (∀ j, b.2.1 16 j = if a < j ∧ j ≤ m then Y.1 16 (j - 1) else Y.1 16 j) ∧ (∀ j, j < a → Y.1 16 j ≤ v) ∧ (∀ j, a ≤ j → j < m → v ≤ Y.1 16 j) ∧ (∀ q, q ≠ 16 → b.2.1 q = Y.1 q) ∧ b.2.2 = Y.2) (fun f k s hI => by
    obtain ⟨i0, M⟩ := s
    obtain ⟨rfl, hk, hr, hv, ho, hj⟩ := hI
    show (∃ b, f_X11_layVelocities_L37 v (f + 1) (nI k) M = some b ∧ _) ∨ (∃ (k' : Nat) (s' : Int32 × Mm), k = k' + 1 ∧ _ ∧ f_X11_layVelocities_L37 v (f + 1) (nI k) M = f_X11_layVelocities_L37 v f s'.1 s'.2)
    rw [f_X11_layVelocities_L37]
    rcases Nat.eq_zero_or_pos k with e | e
    · subst e
      rw [if_pos (show nI 0 ≤ (0 : Int32) by decide)]
      exact Or.inl ⟨_, rfl, 0, rfl, hk, hr, fun j hj => absurd hj (by omega), hv, ho, hj⟩
    · obtain ⟨d, rfl⟩ : ∃ d, k = d + 1 := ⟨k - 1, by omega⟩
      have em : nI (d + 1) - (1 : Int32) = nI d := nI_pred d
      have em2 : nI (d + 1) + (-1 : Int32) = nI d := by rw [← em, Int32.sub_eq_add_neg]
      have g : gI M 16 d = Y.1 16 d := by
        show M.1 16 d = _
        rw [hr, if_neg (by omega)]
      rw [if_neg (show ¬ nI (d + 1) ≤ 0 from nI_nle (by omega) (by omega)), em, em2, ix_n (n := d) (by omega), ix_n (n := d + 1) (by omega), g]
      simp only [lt1_s, chk_p (inb_n (c := d) (N := 12) (by omega) (by decide)), chk_p (inb_n (c := d + 1) (N := 12) (by omega) (by decide))]
      by_cases c : Y.1 16 d ≤ v
      · rw [if_pos c]
        refine Or.inl ⟨_, rfl, d + 1, rfl, hk, hr, fun j hj' => ?_, hv, ho, hj⟩
        have := hs j d (by omega) (by omega)
        rw [i_le] at c this ⊢
        omega
      · rw [if_neg c]
        refine Or.inr ⟨d, (nI d, wI M 16 (d + 1) (Y.1 16 d)), rfl, ⟨rfl, by omega, fun j => ?_, fun j h1 h2 => ?_, fun q hq => ?_, hj⟩, rfl⟩
        · show (if 16 = 16 ∧ j = d + 1 then Y.1 16 d else M.1 16 j) = _
          rw [hr]
          by_cases c2 : j = d + 1
          · rw [if_pos ⟨rfl, c2⟩, if_pos (by omega), c2]
            rfl
          · rw [if_neg (fun q => c2 q.2)]
            by_cases c3 : d + 1 < j ∧ j ≤ m
            · rw [if_pos c3, if_pos (by omega)]
            · rw [if_neg c3, if_neg (by omega)]
        · rcases Nat.eq_or_lt_of_le h1 with q | q
          · subst q
            rw [i_le] at c ⊢
            omega
          · exact hv j q h2
        · show (wI M 16 _ _).1 q = _
          rw [wI_o hq, ho q hq]) m (nI m, Y) 1000 ⟨rfl, Nat.le_refl _, fun j => by show Y.1 16 j = _; rw [if_neg (by omega)], fun j h1 h2 => absurd h1 (by omega), fun _ _ => rfl, rfl⟩ (by omega)
  obtain ⟨x, N⟩ := b
  obtain rfl : x = nI a := hb1
  exact ⟨a, N, hb, hP⟩
theorem y_lay1 {Y : Mm} {n : Nat} {R : Nat → Int32} (hn : n ≤ 12) (hc : Y.1 1 86 = nI n) (hR : ∀ k, k < 12 → Y.1 1 (87 + 6 * k) = R k) : ∃ m N, f_X11_layVelocities Y = some (nI m, N) ∧ m ≤ n ∧ Srt (N.1 16) m ∧ (∀ φ, si φ (N.1 16) m = sx n R φ n) ∧ (∀ q, q ≠ 16 → N.1 q = Y.1 q) ∧ N.2 = Y.2 := by
  obtain ⟨b, hb, m, hb1, hP⟩ := lpUp (L := fun f x (s : Int32 × Mm) => f_X11_layVelocities_L4 f s.1 x s.2) n (fun i (s : Int32 × Mm) => ∃ m, s.1 = nI m ∧ m ≤ i ∧ Srt (s.2.1 16) m ∧ (∀ φ, si φ (s.2.1 16) m = sx n R φ i) ∧ (∀ q, q ≠ 16 → s.2.1 q = Y.1 q) ∧ s.2.2 = Y.2) (fun (b : Int32 × Mm) => ∃ m, b.1 = nI m ∧ m ≤ n ∧ Srt (b.2.1 16) m ∧ (∀ φ, si φ (b.2.1 16) m = sx n R φ n) ∧ (∀ q, q ≠ 16 → b.2.1 q = Y.1 q) ∧ b.2.2 = Y.2) (fun f s hs => by
    obtain ⟨x, M⟩ := s
    obtain ⟨m, h1, h2, h3, h4, h5, h6⟩ := hs
    refine ⟨(x, M), ?_, m, h1, h2, h3, h4, h5, h6⟩
    show f_X11_layVelocities_L4 (f + 1) x (nI n) M = _
    rw [f_X11_layVelocities_L4, if_pos (by rw [show gI M 1 86 = nI n from (congrFun (h5 1 (by decide)) 86).trans hc]; exact nI_le (Nat.le_refl _) (by omega))]) (fun f i s hi hs => by
    obtain ⟨x, M⟩ := s
    obtain ⟨m, h1, h2, h3, h4, h5, h6⟩ := hs
    obtain rfl : x = nI m := h1
    show (∃ b, f_X11_layVelocities_L4 (f + 1) (nI m) (nI i) M = some b ∧ _) ∨ (∃ s' : Int32 × Mm, _ ∧ f_X11_layVelocities_L4 (f + 1) (nI m) (nI i) M = f_X11_layVelocities_L4 f s'.1 (nI (i + 1)) s'.2)
    have ei : (87 : Int32) + (6 : Int32) * nI i = nI (87 + 6 * i) := (congrArg (nI 87 + ·) (nI_mul 6 _)).trans (nI_add _ _)
    have eg : gI M 1 (87 + 6 * i) = R i := (congrFun (h5 1 (by decide)) _).trans (hR i (by omega))
    have e0 : ∀ φ, sx n R φ (i + 1) = sx n R φ i + (if i < n ∧ ¬ R i = -2000000005 then φ (R i) else 0) := fun _ => rfl
    rw [f_X11_layVelocities_L4, if_neg (by rw [show gI M 1 86 = nI n from (congrFun (h5 1 (by decide)) 86).trans hc]; exact nI_ge hi (by omega)), ei, chk_p (inb_n (by omega) (by decide)), ix_n (by omega), lt1_s, eg, nI_1]
    refine Or.inr ?_
    by_cases c : R i = -2000000005
    · rw [if_pos c, ob2_s, lt1_s, nI_1]
      refine ⟨(nI m, M), ⟨m, rfl, by omega, h3, fun φ => ?_, h5, h6⟩, rfl⟩
      rw [e0, if_neg (fun q => q.2 c), Int.add_zero]
      exact h4 φ
    · obtain ⟨a, N, k1, k2, k3, k4, k5, k6, k7⟩ := y_ins1 (Y := M) (m := m) (by omega) h3 (R i)
      rw [if_neg c, k1, ob2_s, chk_p (inb_n (by omega) (by decide)), ix_n (by omega), lt1_s, lt1_s, ob2_s, lt1_s, nI_1]
      have er : ∀ j, (wI N 16 a (R i)).1 16 j = insA (M.1 16) a m (R i) j := fun j => by
        show (if 16 = 16 ∧ j = a then R i else N.1 16 j) = _
        unfold insA
        rw [k3]
        by_cases c2 : j = a
        · rw [if_pos ⟨rfl, c2⟩, if_pos c2]
        · rw [if_neg (fun q => c2 q.2), if_neg c2]
      refine ⟨(nI (m + 1), wI N 16 a (R i)), ⟨m + 1, rfl, by omega, fun j k hj hk => ?_, fun φ => ?_, fun q hq => ?_, ?_⟩, rfl⟩
      · show (wI N 16 a (R i)).1 16 j ≤ (wI N 16 a (R i)).1 16 k
        rw [er, er]
        unfold insA
        by_cases c1 : j = a
        · rw [if_pos c1]
          by_cases c2 : k = a
          · rw [if_pos c2, i_le]
            exact Int.le_refl _
          · rw [if_neg c2, if_pos (by omega)]
            exact k5 _ (by omega) (by omega)
        · rw [if_neg c1]
          by_cases c2 : k = a
          · rw [if_pos c2, if_neg (by omega)]
            exact k4 _ (by omega)
          · rw [if_neg c2]
            by_cases c3 : a < j ∧ j ≤ m
            · rw [if_pos c3, if_pos (by omega)]
              exact h3 _ _ (by omega) (by omega)
            · rw [if_neg c3]
              by_cases c4 : a < k ∧ k ≤ m
              · rw [if_pos c4]
                exact h3 _ _ (by omega) (by omega)
              · rw [if_neg c4]
                exact h3 _ _ (by omega) (by omega)
      · show si φ ((wI N 16 a (R i)).1 16) (m + 1) = _
        rw [si_congr (g' := insA (M.1 16) a m (R i)) (m + 1) (fun k _ => er k)]
        obtain ⟨d, rfl⟩ : ∃ d, m = a + d := ⟨m - a, by omega⟩
        rw [si_ins d (Nat.le_refl _), e0, if_pos ⟨by omega, c⟩]
        exact congrArg (· + φ (R i)) (h4 φ)
      · show (wI N 16 a (R i)).1 q = _
        rw [wI_o hq, k6 q hq]
        exact h5 q hq
      · show N.2 = _
        rw [k7]
        exact h6) (by omega) (s := ((0 : Int32), Y)) ⟨0, rfl, Nat.le_refl _, fun j k _ hk => absurd hk (by omega), fun _ => rfl, fun _ _ => rfl, rfl⟩
  obtain ⟨x, N⟩ := b
  obtain rfl : x = nI m := hb1
  refine ⟨m, N, ?_, hP⟩
  unfold f_X11_layVelocities
  rw [show f_X11_layVelocities_L4 1000 (0 : Int32) (0 : Int32) Y = some (nI m, N) from hb]
  rfl

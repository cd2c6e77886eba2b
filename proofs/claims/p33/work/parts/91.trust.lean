/-! P33, 8: the order of trust -/
theorem pigeon : ∀ (n : Nat) (f : Nat → Nat), (∀ i, i < n → f i < n) → (∀ i j, i < n → j < n → f i = f j → i = j) → ∀ k, k < n → ∃ i, i < n ∧ f i = k := by
  intro n
  induction n with
  | zero => intro f _ _ k hk; exact absurd hk (by omega)
  | succ n ih =>
    intro f h1 h2 k hk
    have gl : ∀ i, i < n → (if f i = n then f n else f i) < n := fun i hi => by
      by_cases c : f i = n
      · rw [if_pos c]
        have a := h1 n (by omega)
        rcases Nat.eq_or_lt_of_le (show f n ≤ n by omega) with e | e
        · have := h2 i n (by omega) (by omega) (c.trans e.symm)
          omega
        · exact e
      · rw [if_neg c]
        have := h1 i (by omega)
        omega
    have gi : ∀ i j, i < n → j < n → (if f i = n then f n else f i) = (if f j = n then f n else f j) → i = j := fun i j hi hj e => by
      by_cases c : f i = n
      · by_cases d : f j = n
        · exact h2 i j (by omega) (by omega) (c.trans d.symm)
        · rw [if_pos c, if_neg d] at e
          have := h2 n j (by omega) (by omega) e
          omega
      · by_cases d : f j = n
        · rw [if_neg c, if_pos d] at e
          have := h2 i n (by omega) (by omega) e
          omega
        · rw [if_neg c, if_neg d] at e
          exact h2 i j (by omega) (by omega) e
    by_cases c : f n = k
    · exact ⟨n, by omega, c⟩
    have key : ∀ k', k' < n → ∃ i, i < n ∧ (if f i = n then f n else f i) = k' := ih (fun i => if f i = n then f n else f i) gl gi
    rcases Nat.eq_or_lt_of_le (show k ≤ n by omega) with e | e
    · have a := h1 n (by omega)
      obtain ⟨i, i1, i2⟩ := key (f n) (by omega)
      by_cases d : f i = n
      · exact ⟨i, by omega, by omega⟩
      · rw [if_neg d] at i2
        have := h2 i n (by omega) (by omega) i2
        omega
    · obtain ⟨i, i1, i2⟩ := key k e
      by_cases d : f i = n
      · rw [if_pos d] at i2
        exact absurd i2 c
      · rw [if_neg d] at i2
        exact ⟨i, by omega, i2⟩
def cnt (P : Nat → Prop) [∀ j, Decidable (P j)] : Nat → Nat
  | 0 => 0
  | k + 1 => cnt P k + (if P k then 1 else 0)
theorem cnt_le {P Q : Nat → Prop} [∀ j, Decidable (P j)] [∀ j, Decidable (Q j)] : ∀ n : Nat, (∀ j, j < n → P j → Q j) → cnt P n ≤ cnt Q n := by
  intro n
  induction n with
  | zero => intro _; exact Nat.le_refl _
  | succ n ih =>
    intro h
    have a := ih (fun j hj => h j (by omega))
    show cnt P n + (if P n then 1 else 0) ≤ cnt Q n + (if Q n then 1 else 0)
    by_cases c : P n
    · rw [if_pos c, if_pos (h n (by omega) c)]; omega
    · rw [if_neg c]; omega
theorem cnt_lt {P Q : Nat → Prop} [∀ j, Decidable (P j)] [∀ j, Decidable (Q j)] {a : Nat} (h1 : ¬ P a) (h2 : Q a) : ∀ n : Nat, a < n → (∀ j, j < n → P j → Q j) → cnt P n < cnt Q n := by
  intro n
  induction n with
  | zero => intro h; exact absurd h (by omega)
  | succ n ih =>
    intro ha h
    show cnt P n + (if P n then 1 else 0) < cnt Q n + (if Q n then 1 else 0)
    rcases Nat.eq_or_lt_of_le (show a ≤ n by omega) with e | e
    · subst e
      have := cnt_le (P := P) (Q := Q) a (fun j hj => h j (by omega))
      rw [if_neg h1, if_pos h2]
      omega
    · have := ih e (fun j hj => h j (by omega))
      by_cases c : P n
      · rw [if_pos c, if_pos (h n (by omega) c)]; omega
      · rw [if_neg c]; omega
theorem cnt_top : ∀ n : Nat, cnt (fun _ => True) n = n := by
  intro n
  induction n with
  | zero => rfl
  | succ n ih =>
    show cnt (fun _ => True) n + (if True then 1 else 0) = n + 1
    rw [ih, if_pos trivial]
/-- path j is trusted before path i -/
def bfr (X : Mm) (i j : Nat) : Prop := (flX X j).toInt < (flX X i).toInt ∨ (flX X j).toInt = (flX X i).toInt ∧ ((X.1 (2 + 2 * j) 12).toInt < (X.1 (2 + 2 * i) 12).toInt ∨ (X.1 (2 + 2 * j) 12).toInt = (X.1 (2 + 2 * i) 12).toInt ∧ ((X.1 (2 + 2 * j) 13 + X.1 (2 + 2 * j) 14).toInt < (X.1 (2 + 2 * i) 13 + X.1 (2 + 2 * i) 14).toInt ∨ (X.1 (2 + 2 * j) 13 + X.1 (2 + 2 * j) 14).toInt = (X.1 (2 + 2 * i) 13 + X.1 (2 + 2 * i) 14).toInt ∧ ((X.1 (2 + 2 * i) 2).toInt < (X.1 (2 + 2 * j) 2).toInt ∨ (X.1 (2 + 2 * i) 2).toInt = (X.1 (2 + 2 * j) 2).toInt ∧ j < i)))
noncomputable def bdec (X : Mm) (i : Nat) : ∀ j, Decidable (bfr X i j) := fun j => Classical.propDecidable _
theorem bfr_irr {X : Mm} {i : Nat} : ¬ bfr X i i := by unfold bfr; omega
theorem bfr_tot {X : Mm} {i j : Nat} (h : i ≠ j) : bfr X i j ∨ bfr X j i := by unfold bfr; omega
theorem bfr_tr {X : Mm} {i j k : Nat} (h1 : bfr X j k) (h2 : bfr X i j) : bfr X i k := by unfold bfr at *; omega
noncomputable def plX (X : Mm) (n i : Nat) : Nat := @cnt (bfr X i) (bdec X i) n
theorem pl_lt {X : Mm} {n i : Nat} (hi : i < n) : plX X n i < n := by
  have := @cnt_lt (bfr X i) (fun _ => True) (bdec X i) (fun _ => instDecidableTrue) i bfr_irr trivial n hi (fun _ _ _ => trivial)
  have e := cnt_top n
  unfold plX
  omega
theorem pl_mono {X : Mm} {n i j : Nat} (hj : j < n) (h : bfr X i j) : plX X n j < plX X n i := @cnt_lt (bfr X j) (bfr X i) (bdec X j) (bdec X i) j bfr_irr h n hj (fun k _ hk => bfr_tr hk h)
theorem pl_inj {X : Mm} {n i j : Nat} (hi : i < n) (hj : j < n) (h : plX X n i = plX X n j) : i = j := by
  by_cases e : i = j
  · exact e
  · exfalso
    rcases bfr_tot (X := X) e with q | q
    · have := pl_mono hj q; omega
    · have := pl_mono hi q; omega
theorem pl_bfr {X : Mm} {n i j : Nat} (hi : i < n) (h : plX X n j < plX X n i) : bfr X i j := by
  by_cases e : i = j
  · subst e; omega
  · rcases bfr_tot (X := X) e with q | q
    · exact q
    · have := pl_mono hi q; omega
theorem flX_v (X : Mm) (i : Nat) : (flX X i = 0 ∧ X.1 (2 + 2 * i) 12 < 3) ∨ (flX X i = 1 ∧ ¬ X.1 (2 + 2 * i) 12 < 3) := by
  unfold flX
  by_cases c : X.1 (2 + 2 * i) 12 < 3
  · exact Or.inl ⟨if_pos c, c⟩
  · exact Or.inr ⟨if_neg c, c⟩
theorem x_fails {X : Mm} {i : Nat} : f_X3_fails (2 + 2 * i) X = some (flX X i) := by
  unfold f_X3_fails flX
  by_cases c : X.1 (2 + 2 * i) 12 < 3
  · rw [if_pos (show gI X (2 + 2 * i) 12 < 3 from c), if_pos c]
  · rw [if_neg (show ¬ gI X (2 + 2 * i) 12 < 3 from c), if_neg c]
theorem x_before {X : Mm} {i j : Nat} (hi : i < 4) (hj : j < 4) (hij : j ≠ i) : ∃ r, f_X3_isTrustedBefore (2 + 2 * j) (2 + 2 * i) (if nI i ≤ nI j then 0 else 1) X = some r ∧ ((r = 0 ∧ ¬ bfr X i j) ∨ (r = 1 ∧ bfr X i j)) := by
  have e0 : (0 : Int32).toInt = 0 := rfl
  have e1 : (1 : Int32).toInt = 1 := rfl
  unfold f_X3_isTrustedBefore
  rw [x_fails, x_fails, ob1_s, ob1_s]
  have bzf : bz (flX X i) = true := by
    rcases flX_v X i with ⟨q, -⟩ | ⟨q, -⟩
    · rw [q]; rfl
    · rw [q]; rfl
  by_cases c : flX X j = flX X i
  · rw [if_pos c]
    by_cases c2 : gI X (2 + 2 * j) 12 = gI X (2 + 2 * i) 12
    · rw [if_pos c2, lt1_s, lt1_s]
      by_cases c3 : gI X (2 + 2 * j) 13 + gI X (2 + 2 * j) 14 = gI X (2 + 2 * i) 13 + gI X (2 + 2 * i) 14
      · rw [if_pos c3]
        by_cases c4 : gI X (2 + 2 * j) 2 = gI X (2 + 2 * i) 2
        · rw [if_pos c4]
          rw [i_eq] at c c2 c3 c4
          by_cases c5 : nI i ≤ nI j
          · rw [if_pos c5]
            refine ⟨0, rfl, Or.inl ⟨rfl, ?_⟩⟩
            rw [i_le, nI_toInt (by omega), nI_toInt (by omega)] at c5
            have c2' : (X.1 (2 + 2 * j) 12).toInt = (X.1 (2 + 2 * i) 12).toInt := c2
            have c3' : (X.1 (2 + 2 * j) 13 + X.1 (2 + 2 * j) 14).toInt = (X.1 (2 + 2 * i) 13 + X.1 (2 + 2 * i) 14).toInt := c3
            have c4' : (X.1 (2 + 2 * j) 2).toInt = (X.1 (2 + 2 * i) 2).toInt := c4
            unfold bfr
            omega
          · rw [if_neg c5]
            refine ⟨1, rfl, Or.inr ⟨rfl, ?_⟩⟩
            rw [i_le, nI_toInt (by omega), nI_toInt (by omega)] at c5
            have c2' : (X.1 (2 + 2 * j) 12).toInt = (X.1 (2 + 2 * i) 12).toInt := c2
            have c3' : (X.1 (2 + 2 * j) 13 + X.1 (2 + 2 * j) 14).toInt = (X.1 (2 + 2 * i) 13 + X.1 (2 + 2 * i) 14).toInt := c3
            have c4' : (X.1 (2 + 2 * j) 2).toInt = (X.1 (2 + 2 * i) 2).toInt := c4
            unfold bfr
            omega
        · rw [if_neg c4]
          rw [i_eq] at c c2 c3 c4
          have c2' : (X.1 (2 + 2 * j) 12).toInt = (X.1 (2 + 2 * i) 12).toInt := c2
          have c3' : (X.1 (2 + 2 * j) 13 + X.1 (2 + 2 * j) 14).toInt = (X.1 (2 + 2 * i) 13 + X.1 (2 + 2 * i) 14).toInt := c3
          have c4' : ¬ (X.1 (2 + 2 * j) 2).toInt = (X.1 (2 + 2 * i) 2).toInt := c4
          by_cases c5 : gI X (2 + 2 * j) 2 ≤ gI X (2 + 2 * i) 2
          · rw [if_pos c5]
            rw [i_le] at c5
            have c5' : (X.1 (2 + 2 * j) 2).toInt ≤ (X.1 (2 + 2 * i) 2).toInt := c5
            exact ⟨0, rfl, Or.inl ⟨rfl, by unfold bfr; omega⟩⟩
          · rw [if_neg c5]
            rw [i_le] at c5
            have c5' : ¬ (X.1 (2 + 2 * j) 2).toInt ≤ (X.1 (2 + 2 * i) 2).toInt := c5
            exact ⟨1, rfl, Or.inr ⟨rfl, by unfold bfr; omega⟩⟩
      · rw [if_neg c3]
        rw [i_eq] at c c2 c3
        have c2' : (X.1 (2 + 2 * j) 12).toInt = (X.1 (2 + 2 * i) 12).toInt := c2
        have c3' : ¬ (X.1 (2 + 2 * j) 13 + X.1 (2 + 2 * j) 14).toInt = (X.1 (2 + 2 * i) 13 + X.1 (2 + 2 * i) 14).toInt := c3
        by_cases c5 : gI X (2 + 2 * i) 13 + gI X (2 + 2 * i) 14 ≤ gI X (2 + 2 * j) 13 + gI X (2 + 2 * j) 14
        · rw [if_pos c5]
          rw [i_le] at c5
          have c5' : (X.1 (2 + 2 * i) 13 + X.1 (2 + 2 * i) 14).toInt ≤ (X.1 (2 + 2 * j) 13 + X.1 (2 + 2 * j) 14).toInt := c5
          exact ⟨0, rfl, Or.inl ⟨rfl, by unfold bfr; omega⟩⟩
        · rw [if_neg c5]
          rw [i_le] at c5
          have c5' : ¬ (X.1 (2 + 2 * i) 13 + X.1 (2 + 2 * i) 14).toInt ≤ (X.1 (2 + 2 * j) 13 + X.1 (2 + 2 * j) 14).toInt := c5
          exact ⟨1, rfl, Or.inr ⟨rfl, by unfold bfr; omega⟩⟩
    · rw [if_neg c2]
      rw [i_eq] at c c2
      have c2' : ¬ (X.1 (2 + 2 * j) 12).toInt = (X.1 (2 + 2 * i) 12).toInt := c2
      by_cases c5 : gI X (2 + 2 * i) 12 ≤ gI X (2 + 2 * j) 12
      · rw [if_pos c5]
        rw [i_le] at c5
        have c5' : (X.1 (2 + 2 * i) 12).toInt ≤ (X.1 (2 + 2 * j) 12).toInt := c5
        exact ⟨0, rfl, Or.inl ⟨rfl, by unfold bfr; omega⟩⟩
      · rw [if_neg c5]
        rw [i_le] at c5
        have c5' : ¬ (X.1 (2 + 2 * i) 12).toInt ≤ (X.1 (2 + 2 * j) 12).toInt := c5
        exact ⟨1, rfl, Or.inr ⟨rfl, by unfold bfr; omega⟩⟩
  · rw [if_neg c, ob1_s, chk_p bzf]
    refine ⟨_, rfl, ?_⟩
    rcases flX_v X i with ⟨q, -⟩ | ⟨q, -⟩
    · rcases flX_v X j with ⟨z, -⟩ | ⟨z, -⟩
      · exact absurd (z.trans q.symm) c
      · exact Or.inl ⟨q, by unfold bfr; rw [q, z]; omega⟩
    · rcases flX_v X j with ⟨z, -⟩ | ⟨z, -⟩
      · exact Or.inr ⟨q, by unfold bfr; rw [q, z]; exact Or.inl (by decide)⟩
      · exact absurd (z.trans q.symm) c
theorem x_place1 {X : Mm} {n i : Nat} (h : NP X n) (hi : i < n) : f_X8_placeInTrust (nI i) X = some (nI (plX X n i)) := by
  obtain ⟨hn, hx⟩ := id h
  have hx' : gI X 0 1 = nI n := hx
  obtain ⟨b, hb, rfl⟩ := lpUp (L := fun f x (s : Int32) => f_X8_placeInTrust_L11_2 X (nI i) (2 + 2 * i) f s x) n (fun j s => s = nI (@cnt (bfr X i) (bdec X i) j) ∧ @cnt (bfr X i) (bdec X i) j ≤ j) (fun b => b = nI (plX X n i)) (fun f s hs => ⟨s, by
    rw [f_X8_placeInTrust_L11_2, hx']
    by_cases c4 : (4 : Int32) ≤ nI n
    · rw [if_pos c4]
    · rw [if_neg c4, if_pos (nI_le (Nat.le_refl _) (by omega))], hs.1⟩) (fun f j s hj hs => by
    obtain ⟨rfl, hle⟩ := hs
    have hle' : @cnt (bfr X i) (bdec X i) (j + 1) ≤ j + 1 := by
      show @cnt (bfr X i) (bdec X i) j + (@ite Nat (bfr X i j) (bdec X i j) 1 0) ≤ j + 1
      split <;> omega
    rw [f_X8_placeInTrust_L11_2, hx', if_neg (show ¬ (4 : Int32) ≤ nI j from nI_ge (b := 4) (by omega) (by decide)), if_neg (nI_ge hj (by omega))]
    by_cases cj : nI j = nI i
    · obtain rfl : j = i := (nI_eq (by omega) (by omega)).mp cj
      refine Or.inr ⟨_, ⟨rfl, hle'⟩, ?_⟩
      rw [if_pos rfl, ob1_s, lt1_s, nI_succ]
      congr 2
      show @cnt (bfr X j) (bdec X j) j = @cnt (bfr X j) (bdec X j) j + (@ite Nat (bfr X j j) (bdec X j j) 1 0)
      rw [if_neg bfr_irr, Nat.add_zero]
    · have hji : j ≠ i := fun q => cj (by rw [q])
      obtain ⟨r, r1, r2⟩ := x_before (X := X) (i := i) (j := j) (by omega) (by omega) hji
      rw [if_neg cj, chk_p (inb_n (by omega) (by decide)), ob1_if, show rid 50 1 (ix (nI j)) = 2 + 2 * j from (rid50 (a := 0) (i := j) (by omega)).trans (Nat.zero_add _), r1, ob1_s]
      refine Or.inr ⟨_, ⟨rfl, hle'⟩, ?_⟩
      have es : @cnt (bfr X i) (bdec X i) (j + 1) = @cnt (bfr X i) (bdec X i) j + (@ite Nat (bfr X i j) (bdec X i j) 1 0) := rfl
      rcases r2 with ⟨q, q2⟩ | ⟨q, q2⟩
      · rw [if_pos q, ob1_s, lt1_s, nI_succ, es, if_neg q2, Nat.add_zero]
      · rw [if_neg (show ¬ r = 0 by rw [q]; decide), lt1_s, ob1_s, lt1_s, nI_succ, es, if_pos q2, nI_succ]) (by omega) (s := (0 : Int32)) ⟨rfl, Nat.le_refl _⟩
  unfold f_X8_placeInTrust
  rw [at_in h hi, ob1_s, onl_s, chk_p (ks_path (by omega)), show f_X8_placeInTrust_L11_2 X (nI i) (2 + 2 * i) 1000 (0 : Int32) (0 : Int32) = some (nI (plX X n i)) from hb]
  rfl
theorem lk_trust {X : Mm} {n k : Nat} (h : NP X n) (hk : k < n) : ∃ t, t < n ∧ plX X n t = k ∧ f_X10_trust (nI k) X = some (nI t) := by
  obtain ⟨hn, hx⟩ := id h
  obtain ⟨t, t1, t2⟩ := pigeon n (plX X n) (fun i hi => pl_lt hi) (fun i j hi hj e => pl_inj hi hj e) k hk
  refine ⟨t, t1, t2, ?_⟩
  obtain ⟨b, hb, rfl⟩ := lpUp (L := fun f x (_ : Unit) => f_X10_trust_L9 X (nI k) f x) n (fun i _ => i ≤ t) (fun b => b = nI t) (fun f s hs => absurd hs (by omega)) (fun f i s hi hs => by
    have hs' : i ≤ t := hs
    rw [f_X10_trust_L9, if_neg (show ¬ (4 : Int32) ≤ nI i from nI_ge (b := 4) (by omega) (by decide)), show gI X 0 1 = nI n from hx, if_neg (nI_ge hi (by omega)), x_place1 h hi, ob1_s]
    have := pl_lt (X := X) hi
    by_cases c : nI (plX X n i) = nI k
    · rw [if_pos c]
      have e := (nI_eq (by omega) (by omega)).mp c
      obtain rfl := pl_inj hi t1 (e.trans t2.symm)
      exact Or.inl ⟨_, rfl, rfl⟩
    · rw [if_neg c, lt1_s, nI_1]
      refine Or.inr ⟨(), ?_, rfl⟩
      rcases Nat.eq_or_lt_of_le hs' with e | e
      · subst e
        exact absurd (congrArg nI t2) c
      · exact e) (by omega) (s := ()) (Nat.zero_le _)
  unfold f_X10_trust
  rw [if_pos (show (0 : Int32) ≤ nI k from i_nlt (nI_pos (by omega)))]
  exact hb
theorem lk_trustN {X : Mm} {n : Nat} (h : NP X n) : f_X10_trust (nI n) X = some (-2000000005) := by
  obtain ⟨hn, hx⟩ := id h
  obtain ⟨b, hb, rfl⟩ := lpUp (L := fun f x (_ : Unit) => f_X10_trust_L9 X (nI n) f x) n (fun _ _ => True) (fun b => b = -2000000005) (fun f s _ => ⟨_, by
    rw [f_X10_trust_L9, show gI X 0 1 = nI n from hx]
    by_cases c4 : (4 : Int32) ≤ nI n
    · rw [if_pos c4]
    · rw [if_neg c4, if_pos (nI_le (Nat.le_refl _) (by omega))], rfl⟩) (fun f i s hi _ => by
    rw [f_X10_trust_L9, if_neg (show ¬ (4 : Int32) ≤ nI i from nI_ge (b := 4) (by omega) (by decide)), show gI X 0 1 = nI n from hx, if_neg (nI_ge hi (by omega)), x_place1 h hi, ob1_s]
    have := pl_lt (X := X) hi
    rw [if_neg (fun q => absurd ((nI_eq (by omega) (by omega)).mp q) (by omega)), lt1_s, nI_1]
    exact Or.inr ⟨(), trivial, rfl⟩) (by omega) (s := ()) trivial
  unfold f_X10_trust
  rw [if_pos (show (0 : Int32) ≤ nI n from i_nlt (nI_pos (by omega)))]
  exact hb

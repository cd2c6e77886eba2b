/-! THE PROFILE -/
theorem y_speed {Y : Mm} {k : Nat} (hk : k < 6) : f_X11_speedAt (nI k) Y = some (Y.1 1 (66 + 2 * k)) := by
  unfold f_X11_speedAt
  rw [show (66 : Int32) + (2 : Int32) * nI k = nI (66 + 2 * k) from (congrArg (nI 66 + ·) (nI_mul 2 k)).trans (nI_add _ _), chk_p (inb_n (by omega) (by decide)), ix_n (by omega)]
  rfl
theorem y_factor {Y : Mm} {k : Nat} (hk : k < 6) : f_X11_factorAt (nI k) Y = some (Y.1 1 (67 + 2 * k)) := by
  unfold f_X11_factorAt
  have e : (66 : Int32) + (2 : Int32) * nI k + 1 = nI (67 + 2 * k) := by
    rw [show (66 : Int32) + (2 : Int32) * nI k = nI (66 + 2 * k) from (congrArg (nI 66 + ·) (nI_mul 2 k)).trans (nI_add _ _), nI_1]
    congr 1
    omega
  rw [e, chk_p (inb_n (by omega) (by decide)), ix_n (by omega)]
  rfl
/-- where a velocity stands in the table -/
def Pl (n : Nat) (v : Nat → Int32) (x : Int32) (a : Nat) : Prop := a ≤ n ∧ (∀ k, k < a → v k < x) ∧ (a < n → x ≤ v a)
theorem y_place {Y : Mm} {n : Nat} {C : Int32} {v f : Nat → Int32} (h : PF n C v f (Y.1 1)) (x : Int32) : ∃ a, f_X11_placeOf x Y = some (nI a) ∧ Pl n v x a := by
  obtain ⟨hn, -, hp, hk, -⟩ := h
  have hp' : gI Y 1 65 = nI n := hp
  obtain ⟨b, hb, a, rfl, ha⟩ := lpUp (L := fun f i (_ : Unit) => f_X11_placeOf_L2 Y x f i) n (fun i _ => ∀ k, k < i → v k < x) (fun b => ∃ a, b = nI a ∧ Pl n v x a) (fun f s hs => ⟨nI n, by rw [f_X11_placeOf_L2, hp', if_pos (nI_le (Nat.le_refl _) (by omega))], n, rfl, Nat.le_refl _, hs, fun q => absurd q (by omega)⟩) (fun f i s hi hs => by
    rw [f_X11_placeOf_L2, hp', if_neg (nI_ge hi (by omega)), y_speed (by omega), ob1_s, (hk i hi).1.1]
    by_cases c : x ≤ v i
    · rw [if_pos c]
      exact Or.inl ⟨nI i, rfl, i, rfl, by omega, hs, fun _ => c⟩
    · rw [if_neg c, lt1_s, nI_1]
      refine Or.inr ⟨(), fun k hk' => ?_, rfl⟩
      rcases Nat.eq_or_lt_of_le (show k ≤ i by omega) with e | e
      · rw [e]; exact i_nle c
      · exact hs k e) (by omega) (s := ()) (fun k hk' => absurd hk' (by omega))
  refine ⟨a, ?_, ha⟩
  unfold f_X11_placeOf
  rw [show f_X11_placeOf_L2 Y x 1000 (0 : Int32) = some (nI a) from hb]
  rfl
theorem x_place {X : Mm} {n : Nat} {P : Nat → Int32} (h : PF n (X.1 10 2) (X.1 11) (X.1 12) P) (x : Int32) : ∃ a, f_X4_factorFor_L7 X x 1000 (0 : Int32) = some (nI a) ∧ Pl n (X.1 11) x a := by
  obtain ⟨hn, hc, -, -, -⟩ := h
  have hc' : gI X 10 2 = nI n := hc
  obtain ⟨b, hb, a, rfl, ha⟩ := lpUp (L := fun f i (_ : Unit) => f_X4_factorFor_L7 X x f i) n (fun i _ => ∀ k, k < i → X.1 11 k < x) (fun b => ∃ a, b = nI a ∧ Pl n (X.1 11) x a) (fun f s hs => ⟨nI n, by
    rw [f_X4_factorFor_L7, hc', if_pos (nI_le (Nat.le_refl _) (by omega))]
    by_cases c : (6 : Int32) ≤ nI n
    · rw [if_pos c]
    · rw [if_neg c], n, rfl, Nat.le_refl _, hs, fun q => absurd q (by omega)⟩) (fun f i s hi hs => by
    rw [f_X4_factorFor_L7, hc', if_neg (show ¬ (6 : Int32) ≤ nI i from nI_ge (b := 6) (by omega) (by decide)), if_neg (nI_ge hi (by omega)), chk_p (inb_n (by omega) (by decide)), ix_n (by omega)]
    by_cases c : x ≤ gI X 11 i
    · rw [if_pos c]
      exact Or.inl ⟨nI i, rfl, i, rfl, by omega, hs, fun _ => c⟩
    · rw [if_neg c, lt1_s, nI_1]
      refine Or.inr ⟨(), fun k hk' => ?_, rfl⟩
      rcases Nat.eq_or_lt_of_le (show k ≤ i by omega) with e | e
      · rw [e]; exact i_nle c
      · exact hs k e) (by omega) (s := ()) (fun k hk' => absurd hk' (by omega))
  exact ⟨a, hb, ha⟩
theorem x_find {X : Mm} {n : Nat} {P : Nat → Int32} (h : PF n (X.1 10 2) (X.1 11) (X.1 12) P) (x : Int32) : (∃ a, a < n ∧ f_X4_find x X = some (nI a) ∧ X.1 11 a = x) ∨ (f_X4_find x X = some (-1) ∧ ∀ k, k < n → ¬ X.1 11 k = x) := by
  obtain ⟨hn, hc, -, -, -⟩ := h
  have hc' : gI X 10 2 = nI n := hc
  obtain ⟨b, hb, hP⟩ := lpUp (L := fun f i (_ : Unit) => f_X4_find_L2 X x f i) n (fun i _ => ∀ k, k < i → ¬ X.1 11 k = x) (fun b => (∃ a, a < n ∧ b = nI a ∧ X.1 11 a = x) ∨ (b = -1 ∧ ∀ k, k < n → ¬ X.1 11 k = x)) (fun f s hs => ⟨-1, by
    rw [f_X4_find_L2, hc', if_pos (nI_le (Nat.le_refl _) (by omega))]
    by_cases c : (6 : Int32) ≤ nI n
    · rw [if_pos c]
    · rw [if_neg c], Or.inr ⟨rfl, hs⟩⟩) (fun f i s hi hs => by
    rw [f_X4_find_L2, hc', if_neg (show ¬ (6 : Int32) ≤ nI i from nI_ge (b := 6) (by omega) (by decide)), if_neg (nI_ge hi (by omega)), chk_p (inb_n (by omega) (by decide)), ix_n (by omega)]
    by_cases c : gI X 11 i = x
    · rw [if_pos c]
      exact Or.inl ⟨nI i, rfl, Or.inl ⟨i, hi, rfl, c⟩⟩
    · rw [if_neg c, lt1_s, nI_1]
      refine Or.inr ⟨(), fun k hk' => ?_, rfl⟩
      rcases Nat.eq_or_lt_of_le (show k ≤ i by omega) with e | e
      · rw [e]; exact c
      · exact hs k e) (by omega) (s := ()) (fun k hk' => absurd hk' (by omega))
  rcases hP with ⟨a, h1, rfl, h2⟩ | ⟨rfl, h2⟩
  · exact Or.inl ⟨a, h1, hb, h2⟩
  · exact Or.inr ⟨hb, h2⟩
theorem Pl.uniq {n a b : Nat} {v : Nat → Int32} {x : Int32} (ha : Pl n v x a) (hb : Pl n v x b) : a = b := by
  obtain ⟨a1, a2, a3⟩ := ha
  obtain ⟨b1, b2, b3⟩ := hb
  rcases Nat.lt_trichotomy a b with c | c | c
  · have h1 := a3 (by omega)
    have h2 := b2 a c
    rw [i_le] at h1
    rw [i_lt] at h2
    omega
  · exact c
  · have h1 := b3 (by omega)
    have h2 := a2 b c
    rw [i_le] at h1
    rw [i_lt] at h2
    omega
/-- an entry with this velocity stands at its place -/
theorem Pl.here {n a b : Nat} {C : Int32} {v f P : Nat → Int32} {x : Int32} (h : PF n C v f P) (ha : Pl n v x a) (hb : b < n) (hv : v b = x) : a = b := by
  refine ha.uniq ⟨by omega, fun k hk => ?_, fun _ => ?_⟩
  · rw [← hv]
    exact h.2.2.2.2 k b hk hb
  · rw [hv, i_le]
    omega
theorem jabs_t {x : Int32} (h1 : -1000000 ≤ x) (h2 : x ≤ 1000000) : (jabs x).toInt = (if 0 ≤ x.toInt then x.toInt else -x.toInt) ∧ (if (0 : Int64) ≤ Int32.toInt64 x then some (Int32.toInt64 x) else some (-Int32.toInt64 x)) = some (Int32.toInt64 (jabs x)) := by
  have e1 : (-1000000 : Int32).toInt = -1000000 := rfl
  have e2 : (1000000 : Int32).toInt = 1000000 := rfl
  rw [i_le] at h1 h2
  unfold jabs
  have z : (0 : Int32).toInt = 0 := rfl
  have zL : (0 : Int64).toInt = 0 := rfl
  by_cases c : 0 ≤ x
  · have c' := c
    rw [i_le, z] at c'
    rw [if_pos c, if_pos c', if_pos]
    · exact ⟨rfl, rfl⟩
    · rw [j_le, Int32.toInt_toInt64, zL]; exact c'
  · have c' := c
    rw [i_le, z] at c'
    have s : (0 - x).toInt = -x.toInt := by rw [fb_subI (by omega) (by omega), z]; omega
    rw [if_neg c, if_neg c', if_neg]
    · refine ⟨s, congrArg some ?_⟩
      rw [j_eq, Int64.toInt_neg, Int32.toInt_toInt64, Int32.toInt_toInt64, s, fb_bmodL (by omega) (by omega)]
    · rw [j_le, Int32.toInt_toInt64, zL]; exact c'
theorem i_val (x : Int32) (a b : Int32) (h : a ≤ x ∧ x ≤ b) : a.toInt ≤ x.toInt ∧ x.toInt ≤ b.toInt := ⟨(i_le _ _).mp h.1, (i_le _ _).mp h.2⟩
/-- the quotient between two points -/
theorem between {s t p q v : Int32} (hs : 500 ≤ s ∧ s ≤ 1500) (ht : 500 ≤ t ∧ t ≤ 1500) (hp : 0 ≤ p ∧ p ≤ 100000) (hq : 0 ≤ q ∧ q ≤ 100000) (hpv : p < v) (hvq : v ≤ q) :
    ¬ Int32.toInt64 q - Int32.toInt64 p = 0 ∧
    (500 ≤ Int64.toInt32 ((Int32.toInt64 s * (Int32.toInt64 q - Int32.toInt64 v) + Int32.toInt64 t * (Int32.toInt64 v - Int32.toInt64 p)) / (Int32.toInt64 q - Int32.toInt64 p)) ∧ Int64.toInt32 ((Int32.toInt64 s * (Int32.toInt64 q - Int32.toInt64 v) + Int32.toInt64 t * (Int32.toInt64 v - Int32.toInt64 p)) / (Int32.toInt64 q - Int32.toInt64 p)) ≤ 1500) ∧
    (q = v → Int64.toInt32 ((Int32.toInt64 s * (Int32.toInt64 q - Int32.toInt64 v) + Int32.toInt64 t * (Int32.toInt64 v - Int32.toInt64 p)) / (Int32.toInt64 q - Int32.toInt64 p)) = t) := by
  have s0 := i_val _ _ _ hs
  have t0 := i_val _ _ _ ht
  have p0 := i_val _ _ _ hp
  have q0 := i_val _ _ _ hq
  rw [i_lt] at hpv
  rw [i_le] at hvq
  have e1 : (500 : Int32).toInt = 500 := rfl
  have e2 : (1500 : Int32).toInt = 1500 := rfl
  have e3 : (0 : Int32).toInt = 0 := rfl
  have e4 : (100000 : Int32).toInt = 100000 := rfl
  rw [e1, e2] at s0 t0
  rw [e3, e4] at p0 q0
  have d1 : (Int32.toInt64 q - Int32.toInt64 p).toInt = q.toInt - p.toInt := by rw [fb_subL] <;> simp only [Int32.toInt_toInt64] <;> omega
  have d2 : (Int32.toInt64 q - Int32.toInt64 v).toInt = q.toInt - v.toInt := by rw [fb_subL] <;> simp only [Int32.toInt_toInt64] <;> omega
  have d3 : (Int32.toInt64 v - Int32.toInt64 p).toInt = v.toInt - p.toInt := by rw [fb_subL] <;> simp only [Int32.toInt_toInt64] <;> omega
  have u1 : s.toInt * (q.toInt - v.toInt) ≤ 1500 * (q.toInt - v.toInt) := Int.mul_le_mul_of_nonneg_right s0.2 (by omega)
  have u2 : 500 * (q.toInt - v.toInt) ≤ s.toInt * (q.toInt - v.toInt) := Int.mul_le_mul_of_nonneg_right s0.1 (by omega)
  have u3 : t.toInt * (v.toInt - p.toInt) ≤ 1500 * (v.toInt - p.toInt) := Int.mul_le_mul_of_nonneg_right t0.2 (by omega)
  have u4 : 500 * (v.toInt - p.toInt) ≤ t.toInt * (v.toInt - p.toInt) := Int.mul_le_mul_of_nonneg_right t0.1 (by omega)
  have m1 : (Int32.toInt64 s * (Int32.toInt64 q - Int32.toInt64 v)).toInt = s.toInt * (q.toInt - v.toInt) := by rw [fb_mulL] <;> rw [Int32.toInt_toInt64, d2] <;> omega
  have m2 : (Int32.toInt64 t * (Int32.toInt64 v - Int32.toInt64 p)).toInt = t.toInt * (v.toInt - p.toInt) := by rw [fb_mulL] <;> rw [Int32.toInt_toInt64, d3] <;> omega
  have a1 : (Int32.toInt64 s * (Int32.toInt64 q - Int32.toInt64 v) + Int32.toInt64 t * (Int32.toInt64 v - Int32.toInt64 p)).toInt = s.toInt * (q.toInt - v.toInt) + t.toInt * (v.toInt - p.toInt) := by rw [fb_addL] <;> rw [m1, m2] <;> omega
  have n1 : Int32.toInt64 q - Int32.toInt64 p ≠ -1 := fun z => by
    have := congrArg Int64.toInt z
    rw [d1] at this
    have e : (-1 : Int64).toInt = -1 := rfl
    omega
  have dv : ((Int32.toInt64 s * (Int32.toInt64 q - Int32.toInt64 v) + Int32.toInt64 t * (Int32.toInt64 v - Int32.toInt64 p)) / (Int32.toInt64 q - Int32.toInt64 p)).toInt = (s.toInt * (q.toInt - v.toInt) + t.toInt * (v.toInt - p.toInt)) / (q.toInt - p.toInt) := by
    rw [Int64.toInt_div_of_ne_right _ _ n1, a1, d1, Int.tdiv_eq_ediv_of_nonneg (by omega)]
  have b1 : 500 ≤ (s.toInt * (q.toInt - v.toInt) + t.toInt * (v.toInt - p.toInt)) / (q.toInt - p.toInt) := Int.le_ediv_of_mul_le (by omega) (by omega)
  have b2 : (s.toInt * (q.toInt - v.toInt) + t.toInt * (v.toInt - p.toInt)) / (q.toInt - p.toInt) ≤ 1500 := Int.ediv_le_of_le_mul (by omega) (by omega)
  have r : (Int64.toInt32 ((Int32.toInt64 s * (Int32.toInt64 q - Int32.toInt64 v) + Int32.toInt64 t * (Int32.toInt64 v - Int32.toInt64 p)) / (Int32.toInt64 q - Int32.toInt64 p))).toInt = (s.toInt * (q.toInt - v.toInt) + t.toInt * (v.toInt - p.toInt)) / (q.toInt - p.toInt) := by
    rw [Int64.toInt_toInt32, dv, fb_bmod (by omega) (by omega)]
  refine ⟨fun z => ?_, ⟨?_, ?_⟩, fun z => ?_⟩
  · have := congrArg Int64.toInt z
    rw [d1] at this
    have e : (0 : Int64).toInt = 0 := rfl
    omega
  · rw [i_le, r, e1]; exact b1
  · rw [i_le, r, e2]; exact b2
  · rw [i_eq, r, z]
    have : v.toInt - v.toInt = 0 := by omega
    rw [this, Int.mul_zero, Int.zero_add]
    exact Int.mul_ediv_cancel _ (by omega)
theorem s_factorFor {X Y : Mm} {n : Nat} (h : PF n (X.1 10 2) (X.1 11) (X.1 12) (Y.1 1)) {x : Int32} (h1 : -1000000 ≤ x) (h2 : x ≤ 1000000) : ∃ r, f_X4_factorFor x X = some r ∧ f_X11_factorFor (Int32.toInt64 x) Y = some r ∧ 500 ≤ r ∧ r ≤ 1500 := by
  obtain ⟨j1, j2⟩ := jabs_t h1 h2
  obtain ⟨hn, hc, hp, hk, hs⟩ := id h
  have hc' : gI X 10 2 = nI n := hc
  have hp' : gI Y 1 65 = nI n := hp
  obtain ⟨a, xa, hPl⟩ := x_place h (jabs x)
  unfold f_X4_factorFor f_X11_factorFor
  rw [lt1_s, xa, ob1_s, hc', j2, ob1_s, hp', lt1_s (a := nI n)]
  rcases Nat.eq_zero_or_pos n with e | e
  · subst e
    rw [if_pos (show nI 0 = (0 : Int32) from rfl), if_pos (show nI 0 = (0 : Int32) from rfl)]
    exact ⟨1000, rfl, rfl, by decide, by decide⟩
  have n0 : ¬ nI n = 0 := nI_ne0 e (by omega)
  have wl : ∀ z : Int32, (Int32.toInt64 z < Int32.toInt64 (jabs x)) ↔ z < jabs x := fun z => by rw [j_lt, i_lt, Int32.toInt_toInt64, Int32.toInt_toInt64]
  have wl2 : ∀ z : Int32, (Int32.toInt64 (jabs x) < Int32.toInt64 z) ↔ jabs x < z := fun z => by rw [j_lt, i_lt, Int32.toInt_toInt64, Int32.toInt_toInt64]
  have we : ∀ z : Int32, (Int32.toInt64 z = Int32.toInt64 (jabs x)) ↔ z = jabs x := fun z => by rw [j_eq, i_eq, Int32.toInt_toInt64, Int32.toInt_toInt64]
  have t32 : Int64.toInt32 (Int32.toInt64 (jabs x)) = jabs x := by rw [i_eq, Int64.toInt_toInt32, Int32.toInt_toInt64, fb_bmod (fb_rng _).1 (fb_rng _).2]
  have sp : ∀ k, k < n → f_X11_speedAt (nI k) Y = some (X.1 11 k) := fun k hk' => (y_speed (by omega)).trans (congrArg some (hk k hk').1.1)
  have fa : ∀ k, k < n → f_X11_factorAt (nI k) Y = some (X.1 12 k) := fun k hk' => (y_factor (by omega)).trans (congrArg some (hk k hk').1.2)
  have np : nI n - (1 : Int32) = nI (n - 1) := nI_sub (b := 1) (by omega)
  obtain ⟨a1, a2, a3⟩ := id hPl
  rw [if_neg n0, if_neg n0, show f_X11_speedAt (0 : Int32) Y = some (X.1 11 0) from sp 0 e, ob1_s, show f_X11_factorAt (0 : Int32) Y = some (X.1 12 0) from fa 0 e, np, sp (n - 1) (by omega), fa (n - 1) (by omega)]
  rcases Nat.eq_zero_or_pos a with ea | ea
  · subst ea
    have := a3 e
    rw [if_pos (show nI 0 = (0 : Int32) from rfl), if_neg (fun q => ?_)]
    · exact ⟨X.1 12 0, rfl, rfl, (hk 0 e).2.2.1, (hk 0 e).2.2.2⟩
    · rw [wl, i_lt] at q
      rw [i_le] at this
      omega
  have q0 : X.1 11 0 < jabs x := a2 0 ea
  have ap : nI a - (1 : Int32) = nI (a - 1) := nI_sub (b := 1) (by omega)
  rw [if_neg (nI_ne0 ea (by omega)), if_pos ((wl _).mpr q0), lt1_s, ob1_s, ap]
  rcases Nat.eq_or_lt_of_le a1 with en | en
  · subst en
    have q1 : X.1 11 (a - 1) < jabs x := a2 (a - 1) (by omega)
    rw [if_neg (show ¬ Int32.toInt64 (jabs x) < Int32.toInt64 (X.1 11 (a - 1)) from fun q => by rw [wl2, i_lt] at q; rw [i_lt] at q1; omega), ob1_s]
    refine ⟨X.1 12 (a - 1), ?_, rfl, (hk (a - 1) (by omega)).2.2.1, (hk (a - 1) (by omega)).2.2.2⟩
    rw [if_neg (show ¬ nI a < nI a from nI_nlt (Nat.le_refl _) (by omega)), chk_p (inb_n (by omega) (by decide)), ix_n (by omega), ite_self]
    rfl
  · have r1 := a3 en
    have r2 : X.1 11 (a - 1) < jabs x := a2 (a - 1) (by omega)
    obtain ⟨z1, ⟨z2, z3⟩, z4⟩ := between (s := X.1 12 (a - 1)) (t := X.1 12 a) (p := X.1 11 (a - 1)) (q := X.1 11 a) (v := jabs x) (hk (a - 1) (by omega)).2.2 (hk a en).2.2 (hk (a - 1) (by omega)).2.1 (hk a en).2.1 r2 r1
    have eX : (if (6 : Int32) ≤ nI a then (chk (inb (nI (a - 1)) 6) <| some (gI X 12 (ix (nI (a - 1))))) else (if nI a < nI n then (chk (inb (nI (a - 1)) 6) <| lt1 ((Int32.toInt64 (gI X 11 (ix (nI (a - 1)))))) fun x5_6 => chk (inb (nI a) 6) <| lt1 ((Int32.toInt64 (gI X 11 (ix (nI a))))) fun x7_7 => chk (inb (nI (a - 1)) 6) <| chk (inb (nI a) 6) <| ob1 (f_X10_quotient (((Int32.toInt64 (gI X 12 (ix (nI (a - 1))))) * (x7_7 - (Int32.toInt64 (jabs x)))) + ((Int32.toInt64 (gI X 12 (ix (nI a)))) * ((Int32.toInt64 (jabs x)) - x5_6))) (x7_7 - x5_6) X) fun r_8 => some (Int64.toInt32 r_8)) else (chk (inb (nI (a - 1)) 6) <| some (gI X 12 (ix (nI (a - 1)))))))
        = some (Int64.toInt32 ((Int32.toInt64 (X.1 12 (a - 1)) * (Int32.toInt64 (X.1 11 a) - Int32.toInt64 (jabs x)) + Int32.toInt64 (X.1 12 a) * (Int32.toInt64 (jabs x) - Int32.toInt64 (X.1 11 (a - 1)))) / (Int32.toInt64 (X.1 11 a) - Int32.toInt64 (X.1 11 (a - 1))))) := by
      rw [if_neg (show ¬ (6 : Int32) ≤ nI a from nI_ge (b := 6) (by omega) (by decide)), if_pos (nI_lt en (by omega)), ix_n (n := a - 1) (by omega), ix_n (n := a) (by omega)]
      simp only [lt1_s, chk_p (inb_n (c := a - 1) (N := 6) (by omega) (by decide)), chk_p (inb_n (c := a) (N := 6) (by omega) (by decide))]
      rw [show gI X 11 (a - 1) = X.1 11 (a - 1) from rfl, show gI X 11 a = X.1 11 a from rfl, quot z1]
      rfl
    rw [eX]
    refine ⟨_, rfl, ?_, z2, z3⟩
    obtain ⟨b, yb, hPb⟩ := y_place h (jabs x)
    obtain rfl := hPb.uniq hPl
    by_cases c : jabs x < X.1 11 (n - 1)
    · rw [if_pos ((wl2 _).mpr c), t32, yb, ob1_s]
      have bp : nI b - (1 : Int32) = nI (b - 1) := ap
      rw [sp b en, bp, sp (b - 1) (by omega), fa b en, fa (b - 1) (by omega)]
      simp only [ob1_s, lt1_s]
      by_cases c2 : X.1 11 b = jabs x
      · rw [if_pos ((we _).mpr c2), z4 c2]
      · rw [if_neg (fun q => c2 ((we _).mp q)), chk_p (show decide _ = true from decide_eq_true z1)]
    · rw [if_neg (fun q => c ((wl2 _).mp q)), ob1_s]
      have hb : b = n - 1 := by
        rcases Nat.eq_or_lt_of_le (show b ≤ n - 1 by omega) with q | q
        · exact q
        · exfalso
          have := hs b (n - 1) q (by omega)
          rw [i_lt] at c this
          rw [i_le] at r1
          omega
      have e2 : X.1 11 b = jabs x := by
        rw [← hb, i_lt] at c
        rw [i_le] at r1
        rw [i_eq]
        omega
      rw [z4 e2, hb]
theorem s_factor (x1 : Int32) {X Y : Mm} (h : Rel X Y) : ∃ r, f_X10_factor x1 X = some r ∧ f_X11_factor x1 Y = some r := by
  obtain ⟨-, ⟨n, hF⟩, -⟩ := h.pg
  unfold f_X10_factor f_X11_factor
  rcases in_c x1 (-100000) 100000 X Y with ⟨w1, w2, -⟩ | ⟨w1, w2, lo, hh⟩
  · rw [w1, w2]; exact ⟨_, rfl, rfl⟩
  · have lo' : -1000000 ≤ x1 := by
      rw [i_le] at lo ⊢
      have e1 : (-100000 : Int32).toInt = -100000 := rfl
      have e2 : (-1000000 : Int32).toInt = -1000000 := rfl
      omega
    have hh' : x1 ≤ 1000000 := by
      rw [i_le] at hh ⊢
      have e1 : (100000 : Int32).toInt = 100000 := rfl
      have e2 : (1000000 : Int32).toInt = 1000000 := rfl
      omega
    obtain ⟨r, r1, r2, -⟩ := s_factorFor hF lo' hh'
    rw [w1, w2, ob1_s, ob1_s, if_neg one_0, if_neg one_0, r1, r2]
    exact ⟨r, rfl, rfl⟩

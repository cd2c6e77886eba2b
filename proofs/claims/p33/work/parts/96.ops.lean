/-! P33, 13: the other acts, one by one -/
def cvS (o j : Nat) : Bool := (o == 0 && (j == 6 || j == 7)) || (2 ≤ o && o < 10 && o % 2 == 0 && (j == 10 || j == 11 || j == 12)) || (3 ≤ o && o < 10 && o % 2 == 1 && (j == 0 || j == 3)) || (o == 14 && j == 1) || (16 ≤ o && o < 28 && j < 6)
theorem cvS_p {i j : Nat} (hi : i < 4) (hj : j = 10 ∨ j = 11 ∨ j = 12) : cvS (2 + 2 * i) j = true := by
  have : ∀ i, i < 4 → cvS (2 + 2 * i) 10 = true ∧ cvS (2 + 2 * i) 11 = true ∧ cvS (2 + 2 * i) 12 = true := by decide
  rcases hj with rfl | rfl | rfl
  · exact (this i hi).1
  · exact (this i hi).2.1
  · exact (this i hi).2.2
theorem cvS_s {i j : Nat} (hi : i < 4) (hj : j = 0 ∨ j = 3) : cvS (3 + 2 * i) j = true := by
  have : ∀ i, i < 4 → cvS (3 + 2 * i) 0 = true ∧ cvS (3 + 2 * i) 3 = true := by decide
  rcases hj with rfl | rfl
  · exact (this i hi).1
  · exact (this i hi).2
theorem cvS_r {k j : Nat} (hk : k < 12) (hj : j < 6) : cvS (16 + k) j = true := by
  have : ∀ k, k < 12 → ∀ j, j < 6 → cvS (16 + k) j = true := by decide
  exact this k hk j hj
theorem SI_s {B : Nat} {I I' : Nat → Nat → Int32} {J J' : Nat → Int64} (hI : ∀ o j, o < 28 → cvS o j = true → I' o j = I o j) (hJ : J' = J) (h : SI B I J) : SI B I' J' := by
  subst hJ
  obtain ⟨k1, k2, k3, k4⟩ := h
  refine ⟨fun i hi => ?_, fun n hn hn12 => ?_, ?_, k4⟩
  · have := k1 i hi
    unfold SP at this ⊢
    rw [hI _ 10 (by omega) (cvS_p hi (by decide)), hI _ 11 (by omega) (cvS_p hi (by decide)), hI _ 12 (by omega) (cvS_p hi (by decide)), hI _ 0 (by omega) (cvS_s hi (by decide)), hI _ 3 (by omega) (cvS_s hi (by decide))]
    exact this
  · rw [hI 14 1 (by decide) rfl] at hn
    obtain ⟨a, b⟩ := k2 n hn hn12
    rw [hI 0 6 (by decide) rfl]
    exact ⟨a, fun k hk => SR_congr (fun j hj => hI _ _ (by omega) (cvS_r (by omega) hj)) (b k hk)⟩
  · rw [hI 0 6 (by decide) rfl, hI 0 7 (by decide) rfl]
    exact k3
theorem op_fin {B : Nat} {X X1 X' : Mm} (hI1 : Inv B X1) (hT : Top X X1) (hR : ∃ Y, Rel X' Y) (ho : Out X1 X') (hs : ∀ o j, o < 28 → cvS o j = true → X'.1 o j = X1.1 o j) (h2 : X'.2 0 = X1.2 0) : Inv B X' ∧ Top X X' :=
  ⟨hI1.mod hR ho (SI_s (fun o j a b => by show X'.1 (0 + o) j = X1.1 (0 + o) j; rw [Nat.zero_add]; exact hs o j a b) h2 hI1.2.1) (Nat.le_refl _), hT.keep ho⟩
theorem wI_n {M : Mm} {k j o i : Nat} {v : Int32} (h : cvS o i = true) (h2 : cvS k j = false) : (wI M k j v).1 o i = M.1 o i := by
  by_cases c : o = k
  · subst c
    refine wI_k (fun e => ?_)
    subst e
    rw [h] at h2
    exact absurd h2 (by decide)
  · rw [wI_o c]
theorem kx_lo {X X1 : Mm} (kx : Kx X X1) {k : Nat} (hk : k < 28) : X1.1 k = X.1 k := (kx k (by omega)).1 (by omega)
theorem NP.kx {X X1 : Mm} {n : Nat} (hn : NP X n) (kx : Kx X X1) : NP X1 n := ⟨hn.1, by rw [kx_lo kx (by decide)]; exact hn.2⟩
theorem Sl.kx {X X1 : Mm} (kx : Kx X X1) : Sl X X1 := fun k a => ⟨(kx k (by omega)).1 (by omega), (kx k (by omega)).2⟩
theorem Sl.out {X X1 : Mm} (h : Out X X1) : Sl X X1 := fun k a => h k (by omega) (by omega)
/-! the weights -/
theorem x_setWeight {X : Mm} {B n i : Nat} {w : Int32} (hI : Inv B X) (hn : NP X n) (hi : i < n) (w0 : 1 ≤ w) (w1 : w ≤ 1000) : ∃ X', f_X10_setWeight (nI i) w X = some (X.1 (2 + 2 * i) 2, X') ∧ Inv B X' ∧ NP X' n ∧ X'.1 (2 + 2 * i) 2 = w := by
  have h4 := hn.1
  obtain ⟨⟨Y, hR⟩, -⟩ := id hI
  obtain ⟨r, X2, Y2, e1, -, hR2⟩ := s_setWeight (nI i) w hR
  obtain ⟨X1, p1, hI1, kx, hT⟩ := hI.push
  have e2 : f_X10_setWeight (nI i) w X = some (X.1 (2 + 2 * i) 2, wI X1 (2 + 2 * i) 2 w) := by
    unfold f_X10_setWeight
    rw [at_in hn hi, ob1_s, onl_s, chk_p (ks_path (by omega)), in_y w0 w1, ob1_s, if_neg one_0, chk_p (stb_path (by omega)), p1, ob1_s, lt1_s, lt1_s, show gI X1 (2 + 2 * i) 2 = X.1 (2 + 2 * i) 2 from congrFun (kx_lo kx (by omega)) 2]
  obtain ⟨rfl, rfl⟩ := Prod.mk.inj (Option.some.inj (e1.symm.trans e2))
  have cf : ∀ i, i < 4 → cvS (2 + 2 * i) 2 = false := by decide
  refine ⟨_, e2, (op_fin hI1 hT ⟨Y2, hR2⟩ (fun k a b => ⟨wI_o (by omega), rfl⟩) (fun o j _ b => wI_n b (cf i (by omega))) rfl).1, ⟨h4, ?_⟩, wI_e⟩
  rw [wI_o (by omega)]
  exact (hn.kx kx).2
theorem x_setWeightN {X : Mm} {n : Nat} (hn : NP X n) (w : Int32) : f_X10_setWeight (nI n) w X = some (-2000000001, X) := by
  unfold f_X10_setWeight
  rw [at_no hn, ob1_s, onl_n]
theorem in_no {a b c : Int32} {X : Mm} (h : ¬ (b ≤ a ∧ a ≤ c)) : f_X10_isWithin a b c X = some 0 := by
  rcases in_c a b c X X with ⟨z, -⟩ | ⟨-, -, z⟩
  · exact z
  · exact absurd z h
theorem x_setWeight0 {X : Mm} {n i : Nat} (hn : NP X n) (hi : i < n) : f_X10_setWeight (nI i) 0 X = some (-2000000002, X) := by
  have h4 := hn.1
  unfold f_X10_setWeight
  rw [at_in hn hi, ob1_s, onl_s, chk_p (ks_path (by omega)), in_no (by decide), ob1_s, if_pos rfl]
/-! the settings -/
theorem x_set {X : Mm} {B n q : Nat} {v : Int32} (hI : Inv B X) (hn : NP X n) (hq : q < 5) (v0 : sSETTING_LOW q ≤ v) (v1 : v ≤ sSETTING_HIGH q) : ∃ X', f_X10_set (nI q) v X = some (X.1 13 q, X') ∧ Inv B X' ∧ Top X X' ∧ NP X' n ∧ X'.1 13 q = v := by
  have h4 := hn.1
  obtain ⟨⟨Y, hR⟩, -⟩ := id hI
  obtain ⟨r, X2, Y2, e1, -, hR2⟩ := s_set (nI q) v hR
  obtain ⟨X1, p1, hI1, kx, hT⟩ := hI.push
  have e2 : f_X10_set (nI q) v X = some (X.1 13 q, wI X1 13 q v) := by
    unfold f_X10_set
    simp only [chk_p (inb_n (c := q) (N := 5) hq (by decide)), ix_n (n := q) (by omega)]
    rw [if_neg (nI_pos (by omega)), if_pos (show nI q < (5 : Int32) from nI_lt hq (by decide)), in_y v0 v1, ob1_s, if_neg one_0, p1, ob1_s, lt1_s, lt1_s, show gI X1 13 q = X.1 13 q from congrFun (kx_lo kx (by omega)) q]
  obtain ⟨rfl, rfl⟩ := Prod.mk.inj (Option.some.inj (e1.symm.trans e2))
  have cf : ∀ q, q < 5 → cvS 13 q = false := by decide
  obtain ⟨z1, z2⟩ := op_fin hI1 hT ⟨Y2, hR2⟩ (fun k a b => ⟨wI_o (by omega), rfl⟩) (fun o j _ b => wI_n b (cf q (by omega))) rfl
  refine ⟨_, e2, z1, z2, ⟨h4, ?_⟩, wI_e⟩
  rw [wI_o (by omega)]
  exact (hn.kx kx).2
theorem x_set5 {X : Mm} (v : Int32) : f_X10_set 5 v X = some (-2000000001, X) := by
  unfold f_X10_set
  rw [if_neg (by decide), if_neg (by decide)]
/-! forgetting -/
theorem x_forget {X : Mm} {B n i : Nat} (hI : Inv B X) (hn : NP X n) (hi : i < n) : ∃ X', f_X10_forget (nI i) X = some ((if X.1 (2 + 2 * i) 5 = 0 then 0 else 1), X') ∧ Inv B X' ∧ Top X X' ∧ NP X' n ∧ X'.1 (2 + 2 * i) 5 = 0 ∧ X'.1 (2 + 2 * i) 8 = 0 := by
  have h4 := hn.1
  obtain ⟨⟨Y, hR⟩, -⟩ := id hI
  obtain ⟨r, X2, Y2, e1, -, hR2⟩ := s_forget (nI i) hR
  obtain ⟨X1, p1, hI1, kx, hT⟩ := hI.push
  have e2 : f_X10_forget (nI i) X = some ((if X.1 (2 + 2 * i) 5 = 0 then 0 else 1), wI (wI X1 (2 + 2 * i) 5 0) (2 + 2 * i) 8 0) := by
    unfold f_X10_forget f_X10_asNumber
    rw [at_in hn hi, ob1_s, onl_s, chk_p (ks_path (by omega)), chk_p (stb_path (by omega)), p1, ob1_s, show gI X1 (2 + 2 * i) 5 = X.1 (2 + 2 * i) 5 from congrFun (kx_lo kx (by omega)) 5]
    by_cases c : X.1 (2 + 2 * i) 5 = 0
    · rw [if_pos c, if_pos c, ob1_s, lt1_s, lt1_s]
    · rw [if_neg c, if_neg c, ob1_s, lt1_s, lt1_s]
  obtain ⟨rfl, rfl⟩ := Prod.mk.inj (Option.some.inj (e1.symm.trans e2))
  have cf : ∀ i, i < 4 → cvS (2 + 2 * i) 5 = false ∧ cvS (2 + 2 * i) 8 = false := by decide
  obtain ⟨z1, z2⟩ := op_fin hI1 hT ⟨Y2, hR2⟩ (fun k a b => ⟨by rw [wI_o (by omega), wI_o (by omega)], rfl⟩) (fun o j _ b => by rw [wI_n b (cf i (by omega)).2, wI_n b (cf i (by omega)).1]) rfl
  refine ⟨_, e2, z1, z2, ⟨h4, ?_⟩, ?_, wI_e⟩
  · rw [wI_o (by omega), wI_o (by omega)]
    exact (hn.kx kx).2
  · rw [wI_k (by decide), wI_e]
/-! swapping -/
theorem x_swap {X : Mm} {B n : Nat} (hI : Inv B X) (hn : NP X n) : ∃ X', f_X10_swap X = some ((if X.1 0 4 = 0 then 1 else 0), X') ∧ Inv B X' ∧ Top X X' ∧ NP X' n ∧ SwE X X' ∧ X'.1 0 4 = (if X.1 0 4 = 0 then 1 else 0) ∧ Sl X X' := by
  have h4 := hn.1
  obtain ⟨⟨Y, hR⟩, -⟩ := id hI
  obtain ⟨r, X2, Y2, e1, -, hR2⟩ := s_swap hR
  obtain ⟨X1, p1, hI1, kx, hT⟩ := hI.push
  obtain ⟨Xe, q1, q2, q3, q4⟩ := x_exch (X := X1)
  have x0 : Xe.1 0 = X.1 0 := (q3 0 (by decide)).trans (kx_lo kx (by decide))
  have e2 : f_X10_swap X = some ((if X.1 0 4 = 0 then 1 else 0), wI Xe 0 4 (if X.1 0 4 = 0 then 1 else 0)) := by
    unfold f_X10_swap f_X10_swapTransducers f_X10_asNumber
    rw [p1, ob1_s, q1, ob1_s, show gI Xe 0 4 = X.1 0 4 from congrFun x0 4]
    by_cases c : X.1 0 4 = 0
    · rw [if_pos c, if_pos c, ob1_s, chk_p (show bz 1 = true by decide), lt1_s, show gI (wI Xe 0 4 1) 0 4 = 1 from wI_e, if_neg one_0, ob1_s, ob2_s]
    · rw [if_neg c, if_neg c, ob1_s, chk_p (show bz 0 = true by decide), lt1_s, show gI (wI Xe 0 4 0) 0 4 = 0 from wI_e, if_pos rfl, ob1_s, ob2_s]
  obtain ⟨rfl, rfl⟩ := Prod.mk.inj (Option.some.inj (e1.symm.trans e2))
  have ho : Out X1 (wI Xe 0 4 (if X.1 0 4 = 0 then 1 else 0)) := fun k a b => ⟨by rw [wI_o (by omega), q3 k (by omega)], congrFun q4 k⟩
  have hs : ∀ o j, o < 28 → cvS o j = true → (wI Xe 0 4 (if X.1 0 4 = 0 then 1 else 0)).1 o j = X1.1 o j := fun o j ho h => by
    rw [wI_n h (by decide)]
    by_cases c : o < 2 ∨ 10 ≤ o
    · rw [q3 o c]
    · rcases Nat.mod_two_eq_zero_or_one o with e | e
      · obtain ⟨i, rfl⟩ : ∃ i, o = 2 + 2 * i := ⟨(o - 2) / 2, by omega⟩
        have cf : ∀ i, i < 4 → cvS (2 + 2 * i) 6 = false ∧ cvS (2 + 2 * i) 7 = false := by decide
        have n6 : ¬ j = 6 := fun z => by subst z; rw [(cf i (by omega)).1] at h; exact absurd h (by decide)
        have n7 : ¬ j = 7 := fun z => by subst z; rw [(cf i (by omega)).2] at h; exact absurd h (by decide)
        rw [(q2 i (by omega)).1]
        unfold sw6
        rw [if_neg n6, if_neg n7]
      · obtain ⟨i, rfl⟩ : ∃ i, o = 3 + 2 * i := ⟨(o - 3) / 2, by omega⟩
        have cf : ∀ i, i < 4 → cvS (3 + 2 * i) 1 = false ∧ cvS (3 + 2 * i) 2 = false := by decide
        have n6 : ¬ j = 1 := fun z => by subst z; rw [(cf i (by omega)).1] at h; exact absurd h (by decide)
        have n7 : ¬ j = 2 := fun z => by subst z; rw [(cf i (by omega)).2] at h; exact absurd h (by decide)
        rw [(q2 i (by omega)).2]
        unfold sw1
        rw [if_neg n6, if_neg n7]
  obtain ⟨z1, z2⟩ := op_fin hI1 hT ⟨Y2, hR2⟩ ho hs (congrFun q4 0)
  refine ⟨_, e2, z1, z2, ⟨h4, ?_⟩, ⟨fun q hq => ⟨?_, ?_⟩, fun o a b => ?_, fun j hj => ?_, ?_⟩, wI_e, (Sl.kx kx).tr (Sl.out ho)⟩
  · rw [wI_k (by decide), x0]
    exact hn.2
  · rw [wI_o (by omega), (q2 q hq).1, kx_lo kx (by omega)]
  · rw [wI_o (by omega), (q2 q hq).2, kx_lo kx (by omega)]
  · rw [wI_o (by omega), q3 o (by omega), kx_lo kx (by omega)]
  · rw [wI_k hj, x0]
  · exact (congrFun q4 0).trans (kx 0 (by omega)).2
theorem sw6_2 (f : Nat → Int32) : sw6 (sw6 f) = f := by
  funext j
  unfold sw6
  by_cases a : j = 6
  · subst a; rfl
  · rw [if_neg a]
    by_cases b : j = 7
    · subst b; rfl
    · rw [if_neg b, if_neg a, if_neg b]
theorem sw1_2 (f : Nat → Int32) : sw1 (sw1 f) = f := by
  funext j
  unfold sw1
  by_cases a : j = 1
  · subst a; rfl
  · rw [if_neg a]
    by_cases b : j = 2
    · subst b; rfl
    · rw [if_neg b, if_neg a, if_neg b]
theorem sw_back {X X' X'' : Mm} (h : SwE X X') (h2 : SwE X' X'') (h4 : X''.1 0 4 = X.1 0 4) : PgE X'' 0 X 0 := by
  refine ⟨fun o j a b c => ?_, congrFun (h2.2.2.2.trans h.2.2.2) 8, congrFun (h2.2.2.2.trans h.2.2.2) 9⟩
  rw [Nat.zero_add]
  have d : o = 0 ∨ o = 1 ∨ (2 ≤ o ∧ o < 10) ∨ 10 ≤ o := by omega
  rcases d with rfl | rfl | ⟨d1, d2⟩ | d
  · by_cases e : j = 4
    · subst e; exact h4
    · rw [h2.2.2.1 j e, h.2.2.1 j e]
  · have : ∀ j, j < 16 → cov 1 j = false := by decide
    rw [this j b] at c
    exact absurd c (by decide)
  · rcases Nat.mod_two_eq_zero_or_one o with e | e
    · obtain ⟨i, rfl⟩ : ∃ i, o = 2 + 2 * i := ⟨(o - 2) / 2, by omega⟩
      rw [(h2.1 i (by omega)).1, (h.1 i (by omega)).1, sw6_2]
    · obtain ⟨i, rfl⟩ : ∃ i, o = 3 + 2 * i := ⟨(o - 3) / 2, by omega⟩
      rw [(h2.1 i (by omega)).2, (h.1 i (by omega)).2, sw1_2]
  · rw [h2.2.1 o d a, h.2.1 o d a]
/-- what is swapped would be with the other sign -/
theorem wb_sw {X X' : Mm} {B B' n : Nat} (hI : Inv B X) (hI' : Inv B' X') (hs : SwE X X') (hn : NP X n) : wbX X' = if wbX X = -2000000005 then -2000000005 else -wbX X := by
  obtain ⟨⟨Y, hR⟩, -⟩ := hI
  obtain ⟨⟨Y', hR'⟩, -⟩ := hI'
  have h4 := hn.1
  obtain ⟨⟨n', hA⟩, -, hS, -⟩ := hR.pg
  obtain rfl : n' = n := (nI_eq (by have := hA.1; omega) (by omega)).mp (hA.2.1.symm.trans hn.2)
  have hL : Lk X Y n' := ⟨hA.2.2.2.1, hA.2.2.1, hS.1.1, hS.1.2.2.1⟩
  have sk := nn_sk hR
  have e13 : X'.1 13 1 = X.1 13 1 := congrFun (hs.2.1 13 (by decide) (by decide)) 1
  have eb : bitset (accF X' (X.1 13 1)) 4 = bitset (accF X (X.1 13 1)) 4 := bitset_cg 4 (fun i hi => sw_acc hs _ hi)
  obtain ⟨X1, -, -, -, -, -, -, -, -, hm⟩ := x_judge hR sk
  obtain ⟨X2, -, -, -, -, -, -, -, -, hm'⟩ := x_judge (sk := X.1 13 1) hR' sk
  unfold wbX
  rw [e13, eb]
  rcases hm with ⟨q, -⟩ | ⟨q, -, -, -, -, hA1⟩
  · rw [if_pos q, if_pos q, if_pos rfl]
  · rw [if_neg q, if_neg q]
    rcases hm' with ⟨q', -⟩ | ⟨-, -, -, -, -, hA2⟩
    · rw [eb] at q'; exact absurd q' q
    · obtain ⟨r1, r2, -⟩ := hA1.rv
      have nn : ¬ rvX X (X.1 13 1) = -2000000005 := fun z => by
        rw [z] at r1
        exact absurd r1 (by decide)
      rw [if_neg nn, i_eq, fb_negI (by omega)]
      refine sw_rv hs hL h4 (fun i a b => ?_) sk hA1 hA2
      have z := (outc_0 (sk := X.1 13 1)).mpr (sh_0 hA i a b)
      by_cases c : accF X (X.1 13 1) i = true
      · rcases acc_if.mp c with w | w
        · rw [z] at w; exact absurd w (by decide)
        · rw [z] at w; exact absurd w (by decide)
      · simpa using c
/-! what is refused -/
theorem x_shotN {X : Mm} {n : Nat} (hn : NP X n) (a b c : Int32) : f_X10_shot (nI n) a b c X = some (-2000000001, X) := by
  unfold f_X10_shot f_X10_shotFault
  rw [at_no hn, ob1_s, onl_n, ob1_s, if_neg (by decide)]
theorem x_shotB {X Y : Mm} {n i : Nat} (hR : Rel X Y) (hn : NP X n) (hi : i < n) (b c : Int32) : f_X10_shot (nI i) 999 b c X = some (-2000000002, X) := by
  have h4 := hn.1
  obtain ⟨⟨n', hA⟩, -⟩ := hR.pg
  obtain rfl : n' = n := (nI_eq (by have := hA.1; omega) (by omega)).mp (hA.2.1.symm.trans hn.2)
  obtain ⟨⟨-, -, -, d0, d1⟩, -⟩ := hA.2.2.2.1 i hi
  unfold f_X10_shot
  rcases x_why (by omega) (at_in hn hi) d0 d1 999 b c with ⟨⟨z, -⟩, -⟩ | ⟨-, z⟩
  · exfalso
    have q := z.1
    rw [i_le] at d0 d1 q
    have z0 : (0 : Int32).toInt = 0 := rfl
    have z5 : (5000 : Int32).toInt = 5000 := rfl
    have z8 : (1000 : Int32).toInt = 1000 := rfl
    have z9 : (999 : Int32).toInt = 999 := rfl
    rw [fb_addI (by omega) (by omega)] at q
    omega
  · rw [z, ob1_s, if_neg (by decide)]
theorem x_setPoint0 {X : Mm} : f_X10_setPoint 0 0 X = some (-2000000002, X) := by
  unfold f_X10_setPoint
  rw [in_y (by decide) (by decide), ob1_s, if_neg one_0, in_no (by decide), ob1_s, if_pos rfl]
theorem x_save2 {X : Mm} : f_X10_save 2 X = some (-2000000001, X) := by
  unfold f_X10_save
  rw [if_neg (by decide), if_neg (by decide)]
theorem low_n {v : Int32} {n : Nat} {X : Mm} (h0 : 0 < n) (h4 : n ≤ 1000000) : ∃ i, i < n ∧ f_L_low v (nI n) X = some (nI i) := by
  have e := nI_toInt (n := n) (by omega)
  obtain ⟨r, r1, r2, r3⟩ := low_v (v := v) (n := nI n) (X := X) (by omega)
  have z0 : (0 : Int32).toInt = 0 := rfl
  obtain ⟨j, hj, rfl⟩ := nI_of (x := r) (by rw [i_lt]; omega)
  rw [nI_toInt hj] at r3
  exact ⟨j, by omega, r1⟩

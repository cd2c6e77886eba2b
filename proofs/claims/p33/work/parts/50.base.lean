/-! PLAIN FACTS ON MEMORIES, and what the class's memory and the reference's have in common -/
theorem gI_wI {M : Mm} {a k b j : Nat} {v : Int32} : gI (wI M a k v) b j = if b = a ∧ j = k then v else gI M b j := rfl
theorem gI_wJ {M : Mm} {a k b j : Nat} {v : Int64} : gI (wJ M a k v) b j = gI M b j := rfl
theorem gJ_wI {M : Mm} {a k b j : Nat} {v : Int32} : gJ (wI M a k v) b j = gJ M b j := rfl
theorem gJ_wJ {M : Mm} {a k b j : Nat} {v : Int64} : gJ (wJ M a k v) b j = if b = a ∧ j = k then v else gJ M b j := rfl
theorem gI_wC {M : Mm} {d s n b j : Nat} : gI (wC M d s n) b j = if b = d ∧ j < n then gI M s j else gI M b j := rfl
theorem gJ_wC {M : Mm} {d s n b j : Nat} : gJ (wC M d s n) b j = gJ M b j := rfl
theorem wI_1 {M : Mm} {a k b j : Nat} {v : Int32} : (wI M a k v).1 b j = if b = a ∧ j = k then v else M.1 b j := rfl
theorem wI_2 {M : Mm} {a k : Nat} {v : Int32} : (wI M a k v).2 = M.2 := rfl
theorem wJ_1 {M : Mm} {a k : Nat} {v : Int64} : (wJ M a k v).1 = M.1 := rfl
theorem wJ_2 {M : Mm} {a k b j : Nat} {v : Int64} : (wJ M a k v).2 b j = if b = a ∧ j = k then v else M.2 b j := rfl
theorem lt1_s {α β : Type} {a : α} {f : α → β} : lt1 a f = f a := rfl
theorem ob1_s {α β : Type} {x : α} {f : α → Option β} : ob1 (some x) f = f x := rfl
theorem ob2_s {α α2 β : Type} {x : α} {y : α2} {f : α → α2 → Option β} : ob2 (some (x, y)) f = f x y := rfl
theorem ob3_s {α α2 α3 β : Type} {x : α} {y : α2} {z : α3} {f : α → α2 → α3 → Option β} : ob3 (some (x, y, z)) f = f x y z := rfl
theorem onl_n {β : Type} {a : Option β} {f : Nat → Option β} : onl none a f = a := rfl
theorem onl_s {β : Type} {x : Nat} {a : Option β} {f : Nat → Option β} : onl (some x) a f = f x := rfl
theorem chk_t {α : Type} {k : Option α} : chk true k = k := rfl
theorem chk_p {α : Type} {b : Bool} {k : Option α} (h : b = true) : chk b k = k := if_pos h
theorem ob1_if {α β : Type} {c : Prop} [Decidable c] {x y : α} {f : α → Option β} : ob1 (if c then some x else some y) f = f (if c then x else y) := by
  by_cases h : c
  · rw [if_pos h, if_pos h]; rfl
  · rw [if_neg h, if_neg h]; rfl
theorem ob1_br {α β : Type} {c : Prop} [Decidable c] {x y : Option α} {f : α → Option β} : ob1 (if c then x else y) f = if c then ob1 x f else ob1 y f := by
  by_cases h : c
  · rw [if_pos h, if_pos h]
  · rw [if_neg h, if_neg h]
theorem ob2_br {α α2 β : Type} {c : Prop} [Decidable c] {x y : Option (α × α2)} {f : α → α2 → Option β} : ob2 (if c then x else y) f = if c then ob2 x f else ob2 y f := by
  by_cases h : c
  · rw [if_pos h, if_pos h]
  · rw [if_neg h, if_neg h]
/-! numbers (the family of signed ints is pasted out of the kit's starting texts) -/
/-! ===== signed ints as whole numbers, within bounds ===== -/
theorem fb_rng (x : Int32) : -2147483648 ≤ x.toInt ∧ x.toInt < 2147483648 := by
  have h1 := Int32.le_toInt x
  have h2 := Int32.toInt_lt x
  omega
theorem fb_bmod {z : Int} (h1 : -2147483648 ≤ z) (h2 : z < 2147483648) : z.bmod (2 ^ 32) = z := by
  rw [Int.bmod_eq_of_le (by omega) (by omega)]
theorem fb_addI {x y : Int32} (h1 : -2147483648 ≤ x.toInt + y.toInt) (h2 : x.toInt + y.toInt < 2147483648) : (x + y).toInt = x.toInt + y.toInt := by
  rw [Int32.toInt_add, fb_bmod h1 h2]
theorem fb_subI {x y : Int32} (h1 : -2147483648 ≤ x.toInt - y.toInt) (h2 : x.toInt - y.toInt < 2147483648) : (x - y).toInt = x.toInt - y.toInt := by
  rw [Int32.toInt_sub, fb_bmod h1 h2]
theorem fb_mulI {x y : Int32} (h1 : -2147483648 ≤ x.toInt * y.toInt) (h2 : x.toInt * y.toInt < 2147483648) : (x * y).toInt = x.toInt * y.toInt := by
  rw [Int32.toInt_mul, fb_bmod h1 h2]
theorem fb_negI {x : Int32} (h : x.toInt ≠ -2147483648) : (-x).toInt = -x.toInt := by
  have := fb_rng x
  rw [Int32.toInt_neg, fb_bmod (by omega) (by omega)]
theorem fb_ofI {z : Int} (h1 : -2147483648 ≤ z) (h2 : z < 2147483648) : (Int32.ofInt z).toInt = z := by
  rw [Int32.toInt_ofInt, fb_bmod h1 h2]
theorem fb_asI (x : Int32) : Int32.ofInt x.toInt = x := Int32.ofInt_toInt x
theorem fb_rngL (x : Int64) : -9223372036854775808 ≤ x.toInt ∧ x.toInt < 9223372036854775808 := by
  have h1 := Int64.le_toInt x
  have h2 := Int64.toInt_lt x
  omega
theorem fb_bmodL {z : Int} (h1 : -9223372036854775808 ≤ z) (h2 : z < 9223372036854775808) : z.bmod (2 ^ 64) = z := by
  rw [Int.bmod_eq_of_le (by omega) (by omega)]
theorem fb_addL {x y : Int64} (h1 : -9223372036854775808 ≤ x.toInt + y.toInt) (h2 : x.toInt + y.toInt < 9223372036854775808) : (x + y).toInt = x.toInt + y.toInt := by
  rw [Int64.toInt_add, fb_bmodL h1 h2]
theorem fb_subL {x y : Int64} (h1 : -9223372036854775808 ≤ x.toInt - y.toInt) (h2 : x.toInt - y.toInt < 9223372036854775808) : (x - y).toInt = x.toInt - y.toInt := by
  rw [Int64.toInt_sub, fb_bmodL h1 h2]
theorem fb_mulL {x y : Int64} (h1 : -9223372036854775808 ≤ x.toInt * y.toInt) (h2 : x.toInt * y.toInt < 9223372036854775808) : (x * y).toInt = x.toInt * y.toInt := by
  rw [Int64.toInt_mul, fb_bmodL h1 h2]
theorem nI_mul (a b : Nat) : nI a * nI b = nI (a * b) := by
  apply Int32.toBitVec_inj.1
  show BitVec.ofNat 32 a * BitVec.ofNat 32 b = BitVec.ofNat 32 (a * b)
  rw [BitVec.ofNat_mul]
theorem nI_sub {a b : Nat} (h : b ≤ a) : nI a - nI b = nI (a - b) := by
  obtain ⟨c, rfl⟩ : ∃ c, a = c + b := ⟨a - b, by omega⟩
  rw [Nat.add_sub_cancel, ← nI_add]
  exact Int32.add_sub_cancel _ _
theorem ix_n {n : Nat} (h : n < 2 ^ 31) : ix (nI n) = n := nI_clamp h
theorem inb_n {c N : Nat} (h : c < N) (hN : N < 2 ^ 31) : inb (nI c) N = true := by
  unfold inb
  have h1 := nI_in h hN
  have h2 : ¬ nI c < 0 := fun q => h1 (Or.inl q)
  have h3 : ¬ N ≤ (nI c).toNatClampNeg := fun q => h1 (Or.inr q)
  simp [h2, h3]
theorem i_lit (n : Nat) : (OfNat.ofNat n : Int32) = nI n := rfl
theorem i_lt (a b : Int32) : a < b ↔ a.toInt < b.toInt := Int32.lt_iff_toInt_lt
theorem i_le (a b : Int32) : a ≤ b ↔ a.toInt ≤ b.toInt := Int32.le_iff_toInt_le
theorem i_eq (a b : Int32) : a = b ↔ a.toInt = b.toInt := Int32.toInt_inj.symm
theorem j_lt (a b : Int64) : a < b ↔ a.toInt < b.toInt := Int64.lt_iff_toInt_lt
theorem j_le (a b : Int64) : a ≤ b ↔ a.toInt ≤ b.toInt := Int64.le_iff_toInt_le
theorem j_eq (a b : Int64) : a = b ↔ a.toInt = b.toInt := Int64.toInt_inj.symm
theorem i_rng (x : Int32) : -2147483648 ≤ x.toInt ∧ x.toInt < 2147483648 := ⟨Int32.le_toInt x, Int32.toInt_lt x⟩
theorem i_nlt {a b : Int32} (h : ¬ a < b) : b ≤ a := by
  rw [i_lt] at h; rw [i_le]; omega
theorem i_nle {a b : Int32} (h : ¬ a ≤ b) : b < a := by
  rw [i_le] at h; rw [i_lt]; omega
/-- an index of a row of four, out of its bounds -/
theorem i_four {x : Int32} {n : Nat} (hn : n ≤ 4) (h0 : ¬ x < 0) (h : ¬ nI n ≤ x) : ∃ i, i < n ∧ x = nI i := by
  obtain ⟨j, hj, rfl⟩ := nI_of h0
  refine ⟨j, ?_, rfl⟩
  rcases Nat.lt_or_ge j n with q | q
  · exact q
  · exact absurd (nI_le q hj) h
theorem n_four {i n : Nat} (h : i < n) (hn : n ≤ 4) : i = 0 ∨ i = 1 ∨ i = 2 ∨ i = 3 := by omega
/-- loops: k counts the turns that are left at most -/
theorem lp {S β : Type} (L : Nat → S → Option β) (Inv : Nat → S → Prop) (Po : β → Prop)
    (h : ∀ f k s, Inv k s → (∃ b, L (f + 1) s = some b ∧ Po b) ∨ (∃ k' s', k = k' + 1 ∧ Inv k' s' ∧ L (f + 1) s = L f s')) :
    ∀ k s f, Inv k s → k < f → ∃ b, L f s = some b ∧ Po b := by
  intro k
  induction k with
  | zero =>
    intro s f hI hf
    obtain ⟨g, rfl⟩ : ∃ g, f = g + 1 := ⟨f - 1, by omega⟩
    rcases h g 0 s hI with q | ⟨k', s', e, _, _⟩
    · exact q
    · omega
  | succ k ih =>
    intro s f hI hf
    obtain ⟨g, rfl⟩ : ∃ g, f = g + 1 := ⟨f - 1, by omega⟩
    rcases h g (k + 1) s hI with q | ⟨k', s', e, hI2, e2⟩
    · exact q
    · obtain rfl : k = k' := by omega
      rw [e2]
      exact ih s' g hI2 (by omega)
/-- a loop that counts up to N -/
theorem lpUp {S β : Type} {L : Nat → Int32 → S → Option β} (N : Nat) (Inv : Nat → S → Prop) (Po : β → Prop)
    (he : ∀ f s, Inv N s → ∃ b, L (f + 1) (nI N) s = some b ∧ Po b)
    (hs : ∀ f i s, i < N → Inv i s → (∃ b, L (f + 1) (nI i) s = some b ∧ Po b) ∨ (∃ s', Inv (i + 1) s' ∧ L (f + 1) (nI i) s = L f (nI (i + 1)) s')) (hN : N < 1000) {s : S} (h0 : Inv 0 s) :
    ∃ b, L 1000 (0 : Int32) s = some b ∧ Po b := by
  have key := lp (fun f (q : Nat × S) => L f (nI q.1) q.2) (fun k q => q.1 + k = N ∧ Inv q.1 q.2) Po (fun f k q hq => by
    obtain ⟨i, s⟩ := q
    obtain ⟨h1, h2⟩ := hq
    rcases Nat.eq_or_lt_of_le (show i ≤ N by simp at h1; omega) with e | e
    · subst e
      exact Or.inl (he f s h2)
    · rcases hs f i s e h2 with q | ⟨s', h3, h4⟩
      · exact Or.inl q
      · exact Or.inr ⟨k - 1, (i + 1, s'), by simp at h1; omega, ⟨by simp at h1 ⊢; omega, h3⟩, h4⟩) N (0, s) 1000 ⟨by simp, h0⟩ hN
  exact key
/-! THE PICTURE. A page P of the reference (159 ints) and its two volumes V, beside the class's state: I o j is field j of the object o places behind the state, J its longs -/
def tmOK (d t : Int32) : Prop := d + 1000 ≤ t ∧ t ≤ 10100000
def shOK (d t : Int32) : Prop := d + 1000 ≤ t ∧ t ≤ 9999999
def PL (A S p : Nat → Int32) : Prop :=
  ((50 ≤ A 0 ∧ A 0 ≤ 2000 ∧ 10 ≤ A 1 ∧ A 1 ≤ A 0) ∧ (1 ≤ A 2 ∧ A 2 ≤ 1000) ∧ (100 ≤ A 3 ∧ A 3 ≤ 10000) ∧ 0 ≤ A 4 ∧ A 4 ≤ 5000) ∧
  (p 0 = A 0 ∧ p 1 = A 1 ∧ p 2 = A 2 ∧ p 3 = A 3 ∧ p 4 = A 4) ∧
  (A 5 = 0 ∧ p 5 = -2000000005 ∧ p 6 = -2000000005 ∨ A 5 = 1 ∧ p 5 = A 6 ∧ p 6 = A 7 ∧ tmOK (A 4) (A 6) ∧ tmOK (A 4) (A 7)) ∧
  (A 8 = 0 ∧ p 7 = -2000000005 ∨ A 8 = 1 ∧ p 7 = A 9 ∧ -5000 ≤ A 9 ∧ A 9 ≤ 5000) ∧
  (p 8 = A 10 ∧ p 9 = A 11 ∧ p 10 = A 12 ∧ p 11 = A 13 ∧ p 12 = A 14) ∧
  (S 0 = 0 ∧ p 13 = -2000000005 ∨ S 0 = 1 ∧ p 13 = S 1 ∧ p 14 = S 2 ∧ p 15 = S 3 ∧ shOK (A 4) (S 1) ∧ shOK (A 4) (S 2))
def PN (A S : Nat → Int32) : Prop := A 5 = 0 ∧ A 8 = 0 ∧ A 10 = -2000000005 ∧ A 11 = -2000000005 ∧ A 12 = 0 ∧ A 13 = 0 ∧ A 14 = 0 ∧ S 0 = 0
def PA (n : Nat) (I : Nat → Nat → Int32) (P : Nat → Int32) : Prop := n ≤ 4 ∧ I 0 1 = nI n ∧ P 64 = nI n ∧ (∀ i, i < n → PL (I (2 + 2 * i)) (I (3 + 2 * i)) (fun k => P (16 * i + k))) ∧ ∀ i, n ≤ i → i < 4 → PN (I (2 + 2 * i)) (I (3 + 2 * i))
def PF (n : Nat) (C : Int32) (v f P : Nat → Int32) : Prop := n ≤ 6 ∧ C = nI n ∧ P 65 = nI n ∧ (∀ k, k < n → (P (66 + 2 * k) = v k ∧ P (67 + 2 * k) = f k) ∧ (0 ≤ v k ∧ v k ≤ 100000) ∧ 500 ≤ f k ∧ f k ≤ 1500) ∧ ∀ j k, j < k → k < n → v j < v k
def PS (g P : Nat → Int32) : Prop := (P 78 = g 0 ∧ P 79 = g 1 ∧ P 80 = g 2 ∧ P 81 = g 3 ∧ P 82 = g 4) ∧ (0 ≤ g 0 ∧ g 0 ≤ 100) ∧ (0 ≤ g 1 ∧ g 1 ≤ 5) ∧ (1 ≤ g 2 ∧ g 2 ≤ 100) ∧ (1 ≤ g 3 ∧ g 3 ≤ 1000000) ∧ 1 ≤ g 4 ∧ g 4 ≤ 1000
def PR (n : Nat) (C : Int32) (R : Nat → Nat → Int32) (P : Nat → Int32) : Prop := n ≤ 12 ∧ C = nI n ∧ P 86 = nI n ∧ (∀ k, k < 12 → ∀ j, j < 6 → P (87 + 6 * k + j) = R k j) ∧ ∀ k, k < n → R k 0 = -2000000005 ∨ -1000000 ≤ R k 0 ∧ R k 0 ≤ 1000000
def PG (I : Nat → Nat → Int32) (J : Nat → Int64) (P : Nat → Int32) (V : Nat → Int64) : Prop :=
  (∃ n, PA n I P) ∧ (∃ n, PF n (I 10 2) (I 11) (I 12) P) ∧ PS (I 13) P ∧ (∃ n, PR n (I 14 1) (fun k => I (16 + k)) P) ∧
  (P 83 = I 0 4 ∧ (I 0 4 = 0 ∨ I 0 4 = 1)) ∧ (P 84 = I 0 6 ∧ P 85 = I 0 7) ∧ V 0 = J 8 ∧ V 1 = J 9
def vI (M : Mm) (b : Nat) : Nat → Nat → Int32 := fun o j => M.1 (b + o) j
def HX (X Y : Mm) : Prop := ∃ c, c ≤ 5 ∧ gI X 225 1 = nI c ∧ gI Y 0 4 = nI c ∧ ∀ j, j < c → PG (vI X (28 * (j + 1))) (X.2 (28 * (j + 1))) (fun k => Y.1 3 (159 * j + k)) (fun v => Y.2 4 (2 * j + v))
def SL (X Y : Mm) : Prop := ∀ j, j < 2 → X.1 228 j = Y.1 7 j ∧ (Y.1 7 j = 0 ∨ Y.1 7 j = 1 ∧ PG (vI X (28 * (j + 6))) (X.2 (28 * (j + 6))) (fun k => Y.1 5 (159 * j + k)) (fun v => Y.2 6 (2 * j + v)))
def TX (X Y : Mm) : Prop := ∃ t, t ≤ 100 ∧ gI X 230 1 = nI t ∧ gI Y 0 9 = nI t ∧ ∀ k, k < t → X.1 231 k = Y.1 8 k
def Rel (X Y : Mm) : Prop := PG (vI X 0) (X.2 0) (Y.1 1) (Y.2 2) ∧ HX X Y ∧ SL X Y ∧ TX X Y
/-! what a page rests on -/
def cov (o j : Nat) : Bool := (o == 0 && (j == 1 || j == 4 || j == 6 || j == 7)) || (2 ≤ o && o < 10 && o % 2 == 0 && j < 15) || (3 ≤ o && o < 10 && o % 2 == 1 && j < 4) || (o == 10 && j == 2) || ((o == 11 || o == 12) && j < 6) || (o == 13 && j < 5) || (o == 14 && j == 1) || (16 ≤ o && o < 28 && j < 6)
theorem PL_congr {A S p A' S' p' : Nat → Int32} (hA : ∀ j, j < 15 → A' j = A j) (hS : ∀ j, j < 4 → S' j = S j) (hp : ∀ j, j < 16 → p' j = p j) (h : PL A S p) : PL A' S' p' := by
  unfold PL at h ⊢
  simp only [hA 0 (by decide), hA 1 (by decide), hA 2 (by decide), hA 3 (by decide), hA 4 (by decide), hA 5 (by decide), hA 6 (by decide), hA 7 (by decide), hA 8 (by decide), hA 9 (by decide), hA 10 (by decide), hA 11 (by decide), hA 12 (by decide), hA 13 (by decide), hA 14 (by decide), hS 0 (by decide), hS 1 (by decide), hS 2 (by decide), hS 3 (by decide), hp 0 (by decide), hp 1 (by decide), hp 2 (by decide), hp 3 (by decide), hp 4 (by decide), hp 5 (by decide), hp 6 (by decide), hp 7 (by decide), hp 8 (by decide), hp 9 (by decide), hp 10 (by decide), hp 11 (by decide), hp 12 (by decide), hp 13 (by decide), hp 14 (by decide), hp 15 (by decide)]
  exact h
theorem PN_congr {A S A' S' : Nat → Int32} (hA : ∀ j, j < 15 → A' j = A j) (hS : ∀ j, j < 4 → S' j = S j) (h : PN A S) : PN A' S' := by
  unfold PN at h ⊢
  simp only [hA 5 (by decide), hA 8 (by decide), hA 10 (by decide), hA 11 (by decide), hA 12 (by decide), hA 13 (by decide), hA 14 (by decide), hS 0 (by decide)]
  exact h
theorem PA_congr {n : Nat} {I I' : Nat → Nat → Int32} {P P' : Nat → Int32} (h0 : I' 0 1 = I 0 1) (hI : ∀ i, i < 4 → (∀ j, j < 15 → I' (2 + 2 * i) j = I (2 + 2 * i) j) ∧ ∀ j, j < 4 → I' (3 + 2 * i) j = I (3 + 2 * i) j) (hP : ∀ k, k < 65 → P' k = P k) (h : PA n I P) : PA n I' P' := by
  obtain ⟨h1, h2, h3, h4, h5⟩ := h
  refine ⟨h1, h0.trans h2, (hP 64 (by decide)).trans h3, fun i hi => ?_, fun i hi hi4 => ?_⟩
  · exact PL_congr (hI i (by omega)).1 (hI i (by omega)).2 (fun j hj => hP _ (by omega)) (h4 i hi)
  · exact PN_congr (hI i hi4).1 (hI i hi4).2 (h5 i hi hi4)
theorem PF_congr {n : Nat} {C C' : Int32} {v f P v' f' P' : Nat → Int32} (hC : C' = C) (hv : ∀ k, k < 6 → v' k = v k ∧ f' k = f k) (hP : ∀ k, 65 ≤ k → k < 78 → P' k = P k) (h : PF n C v f P) : PF n C' v' f' P' := by
  obtain ⟨h1, h2, h3, h4, h5⟩ := h
  refine ⟨h1, hC.trans h2, (hP 65 (by decide) (by decide)).trans h3, fun k hk => ?_, fun j k hj hk => ?_⟩
  · rw [hP _ (by omega) (by omega), hP _ (by omega) (by omega), (hv k (by omega)).1, (hv k (by omega)).2]
    exact h4 k hk
  · rw [(hv j (by omega)).1, (hv k (by omega)).1]
    exact h5 j k hj hk
theorem PS_congr {g P g' P' : Nat → Int32} (hg : ∀ k, k < 5 → g' k = g k) (hP : ∀ k, 78 ≤ k → k < 83 → P' k = P k) (h : PS g P) : PS g' P' := by
  unfold PS at h ⊢
  rw [hg 0 (by decide), hg 1 (by decide), hg 2 (by decide), hg 3 (by decide), hg 4 (by decide), hP 78 (by decide) (by decide), hP 79 (by decide) (by decide), hP 80 (by decide) (by decide), hP 81 (by decide) (by decide), hP 82 (by decide) (by decide)]
  exact h
theorem PR_congr {n : Nat} {C C' : Int32} {R R' : Nat → Nat → Int32} {P P' : Nat → Int32} (hC : C' = C) (hR : ∀ k, k < 12 → ∀ j, j < 6 → R' k j = R k j) (hP : ∀ k, 86 ≤ k → k < 159 → P' k = P k) (h : PR n C R P) : PR n C' R' P' := by
  obtain ⟨h1, h2, h3, h4, h5⟩ := h
  refine ⟨h1, hC.trans h2, (hP 86 (by decide) (by decide)).trans h3, fun k hk j hj => ?_, fun k hk => ?_⟩
  · rw [hP _ (by omega) (by omega), hR k hk j hj]
    exact h4 k hk j hj
  · rw [hR k (by omega) 0 (by decide)]
    exact h5 k hk
theorem cov_p {i j : Nat} (hi : i < 4) (hj : j < 15) : cov (2 + 2 * i) j = true := by
  have h : ∀ i, i < 4 → ∀ j, j < 15 → cov (2 + 2 * i) j = true := by decide
  exact h i hi j hj
theorem cov_s {i j : Nat} (hi : i < 4) (hj : j < 4) : cov (3 + 2 * i) j = true := by
  have h : ∀ i, i < 4 → ∀ j, j < 4 → cov (3 + 2 * i) j = true := by decide
  exact h i hi j hj
theorem cov_r {k j : Nat} (hk : k < 12) (hj : j < 6) : cov (16 + k) j = true := by
  have h : ∀ i, i < 12 → ∀ j, j < 6 → cov (16 + i) j = true := by decide
  exact h k hk j hj
theorem cov_v {k : Nat} (hk : k < 6) : cov 11 k = true ∧ cov 12 k = true := by
  have h : ∀ k, k < 6 → cov 11 k = true ∧ cov 12 k = true := by decide
  exact h k hk
theorem cov_g {k : Nat} (hk : k < 5) : cov 13 k = true := by
  have h : ∀ k, k < 5 → cov 13 k = true := by decide
  exact h k hk
theorem PG_congr {I I' : Nat → Nat → Int32} {J J' : Nat → Int64} {P P' : Nat → Int32} {V V' : Nat → Int64} (hI : ∀ o j, o < 28 → j < 16 → cov o j = true → I' o j = I o j) (hJ : J' 8 = J 8 ∧ J' 9 = J 9) (hP : ∀ k, k < 159 → P' k = P k) (hV : V' 0 = V 0 ∧ V' 1 = V 1) (h : PG I J P V) : PG I' J' P' V' := by
  obtain ⟨⟨n, hA⟩, ⟨m, hF⟩, hS, ⟨r, hR⟩, hsw, hcl, hv⟩ := h
  refine ⟨⟨n, PA_congr (hI 0 1 (by decide) (by decide) rfl) (fun i hi => ⟨fun j hj => hI _ _ (by omega) (by omega) (cov_p hi hj), fun j hj => hI _ _ (by omega) (by omega) (cov_s hi hj)⟩) (fun k hk => hP k (by omega)) hA⟩, ⟨m, PF_congr (hI 10 2 (by decide) (by decide) rfl) (fun k hk => ⟨hI _ _ (by decide) (by omega) (cov_v hk).1, hI _ _ (by decide) (by omega) (cov_v hk).2⟩) (fun k _ hk => hP k (by omega)) hF⟩, PS_congr (fun k hk => hI _ _ (by decide) (by omega) (cov_g hk)) (fun k _ hk => hP k (by omega)) hS, ⟨r, PR_congr (hI 14 1 (by decide) (by decide) rfl) (fun k hk j hj => hI _ _ (by omega) (by omega) (cov_r hk hj)) (fun k _ hk => hP k (by omega)) hR⟩, ?_, ?_, ?_⟩
  · rw [hI 0 4 (by decide) (by decide) rfl, hP 83 (by decide)]
    exact hsw
  · rw [hI 0 6 (by decide) (by decide) rfl, hI 0 7 (by decide) (by decide) rfl, hP 84 (by decide), hP 85 (by decide)]
    exact hcl
  · rw [hJ.1, hJ.2, hV.1, hV.2]
    exact hv

/-! THE WORLD IN MY WORDS. Objects have numbers (ids); 'ad' gives an id's address. A memory M holds ints (id, slot) and longs (id, slot). Fields that are references never change, as ids: they stand in the tables below. KS b k: the kind of id k (b = true: the class's objects; b = false: the reference's). -/
abbrev Mm : Type := (Nat → Nat → Int32) × (Nat → Nat → Int64)
def gI (M : Mm) (a k : Nat) : Int32 := M.1 a k
def gJ (M : Mm) (a k : Nat) : Int64 := M.2 a k
def wI (M : Mm) (a k : Nat) (v : Int32) : Mm := (fun b j => if b = a ∧ j = k then v else M.1 b j, M.2)
def wJ (M : Mm) (a k : Nat) (v : Int64) : Mm := (M.1, fun b j => if b = a ∧ j = k then v else M.2 b j)
def wC (M : Mm) (d s n : Nat) : Mm := (fun b j => if b = d ∧ j < n then M.1 s j else M.1 b j, M.2)
def ix (i : Int32) : Nat := i.toNatClampNeg
def inb (i : Int32) (n : Nat) : Bool := !(decide (i < 0) || decide (n ≤ i.toNatClampNeg))
def bz (v : Int32) : Bool := decide (v = 0) || decide (v = 1)
/-- the ways in which a model goes on -/
def chk {α : Type} (b : Bool) (k : Option α) : Option α := if b = true then k else none
def lt1 {α β : Type} (a : α) (f : α → β) : β := f a
def ob1 {α β : Type} (o : Option α) (f : α → Option β) : Option β := match o with
  | none => none
  | some x => f x
def ob2 {α α2 β : Type} (o : Option (α × α2)) (f : α → α2 → Option β) : Option β := match o with
  | none => none
  | some x => f x.1 x.2
def ob3 {α α2 α3 β : Type} (o : Option (α × α2 × α3)) (f : α → α2 → α3 → Option β) : Option β := match o with
  | none => none
  | some x => f x.1 x.2.1 x.2.2
def ob4 {α α2 α3 α4 β : Type} (o : Option (α × α2 × α3 × α4)) (f : α → α2 → α3 → α4 → Option β) : Option β := match o with
  | none => none
  | some x => f x.1 x.2.1 x.2.2.1 x.2.2.2
def onl {β : Type} (o : Option Nat) (a : Option β) (f : Nat → Option β) : Option β := match o with
  | none => a
  | some x => f x
theorem chk_e {α : Type} {b : Bool} {k : Option α} {r : α} (h : chk b k = some r) : b = true ∧ k = some r := by
  unfold chk at h
  split at h
  · exact ⟨by assumption, h⟩
  · cases h
theorem lt1_e {α β : Type} {a : α} {f : α → β} {r : β} (h : lt1 a f = r) : ∃ z, z = a ∧ f z = r := ⟨a, rfl, h⟩
theorem ob1_e {α β : Type} {o : Option α} {f : α → Option β} {r : β} (h : ob1 o f = some r) : ∃ x, o = some x ∧ f x = some r := by
  cases o with
  | none => cases h
  | some x => exact ⟨x, rfl, h⟩
theorem ob2_e {α α2 β : Type} {o : Option (α × α2)} {f : α → α2 → Option β} {r : β} (h : ob2 o f = some r) : ∃ x y, o = some (x, y) ∧ f x y = some r := by
  cases o with
  | none => cases h
  | some x => exact ⟨x.1, x.2, rfl, h⟩
theorem ob3_e {α α2 α3 β : Type} {o : Option (α × α2 × α3)} {f : α → α2 → α3 → Option β} {r : β} (h : ob3 o f = some r) : ∃ x y z, o = some (x, y, z) ∧ f x y z = some r := by
  cases o with
  | none => cases h
  | some x => exact ⟨x.1, x.2.1, x.2.2, rfl, h⟩
theorem ob4_e {α α2 α3 α4 β : Type} {o : Option (α × α2 × α3 × α4)} {f : α → α2 → α3 → α4 → Option β} {r : β} (h : ob4 o f = some r) : ∃ x y z w, o = some (x, y, z, w) ∧ f x y z w = some r := by
  cases o with
  | none => cases h
  | some x => exact ⟨x.1, x.2.1, x.2.2.1, x.2.2.2, rfl, h⟩
theorem br_p {α : Type} {c : Prop} [Decidable c] {a b r : α} (h : c) (e : (if c then a else b) = r) : a = r := by rw [if_pos h] at e; exact e
theorem br_n {α : Type} {c : Prop} [Decidable c] {a b r : α} (h : ¬ c) (e : (if c then a else b) = r) : b = r := by rw [if_neg h] at e; exact e
theorem inb_in {i : Int32} {n : Nat} (h : inb i n = true) : vp_in i n := by
  unfold inb at h
  intro q
  rcases q with q | q <;> simp [q] at h
theorem inb_lt {i : Int32} {n : Nat} (h : inb i n = true) : ix i < n := by
  unfold inb at h
  unfold ix
  simp at h
  omega
theorem bz_or {v : Int32} (h : bz v = true) : v = 0 ∨ v = 1 := by
  unfold bz at h
  simpa using h
theorem bz_nar {v : Int32} (h : bz v = true) : narrow .boolean (.int v) = .int v := by
  rcases bz_or h with rfl | rfl <;> rfl
theorem bz_fit {v : Int32} (h : bz v = true) : fits .boolean (.int v) = true := by
  rcases bz_or h with rfl | rfl <;> rfl
theorem bz_vp {v : Int32} (h : bz v = true) : vp_nar .boolean v = v := by
  unfold vp_nar
  rw [bz_nar h]
def alen : Nat → Nat := fun t => match t with
  | 20 => 4
  | 21 => 5
  | 22 => 6
  | 23 => 100
  | 24 => 159
  | 25 => 795
  | 26 => 318
  | 27 => 8
  | 28 => 12
  | 30 => 4
  | 31 => 2
  | 40 => 2
  | 41 => 10
  | 42 => 4
  | 43 => 4
  | 50 => 4
  | 51 => 12
  | 52 => 5
  | 53 => 2
  | _ => 0
def rid (t k j : Nat) : Nat := match t with
  | 50 => k + 1 + 2 * j
  | 51 => k + 1 + j
  | 52 => 28 * (j + 1)
  | _ => 28 * (j + 6)
def kdS : Nat → Nat := fun o => match o with
  | 0 => 8
  | 1 => 50
  | 2 => 3
  | 3 => 7
  | 4 => 3
  | 5 => 7
  | 6 => 3
  | 7 => 7
  | 8 => 3
  | 9 => 7
  | 10 => 4
  | 11 => 22
  | 12 => 22
  | 13 => 21
  | 14 => 6
  | 15 => 51
  | 16 => 5
  | 17 => 5
  | 18 => 5
  | 19 => 5
  | 20 => 5
  | 21 => 5
  | 22 => 5
  | 23 => 5
  | 24 => 5
  | 25 => 5
  | 26 => 5
  | 27 => 5
  | _ => 99
def kdT : Nat → Nat := fun o => match o with
  | 0 => 10
  | 1 => 1
  | 2 => 52
  | 3 => 53
  | 4 => 31
  | 5 => 0
  | 6 => 9
  | 7 => 23
  | 8 => 2
  | 9 => 30
  | 10 => 20
  | 11 => 20
  | 12 => 20
  | 13 => 20
  | _ => 99
def kdM : Nat → Nat := fun o => match o with
  | 0 => 20
  | 1 => 27
  | _ => 99
def KS (b : Bool) (k : Nat) : Nat := if b = true then (if k < 224 then kdS (k % 28) else kdT (k - 224)) else kdM k
def NS (b : Bool) : Nat := if b = true then 238 else 2
theorem KS_lt {b : Bool} {k : Nat} (h : KS b k < 90) : k < NS b := by
  cases b with
  | true =>
    show k < 238
    rcases Nat.lt_or_ge k 238 with q | q
    · exact q
    · exfalso
      obtain ⟨j, rfl⟩ : ∃ j, k = 238 + j := ⟨k - 238, by omega⟩
      have e : KS true (238 + j) = kdT (j + 14) := by
        unfold KS
        rw [if_pos rfl, if_neg (by omega), show 238 + j - 224 = j + 14 by omega]
      rw [e] at h
      have e2 : kdT (j + 14) = 99 := rfl
      rw [e2] at h
      omega
  | false =>
    show k < 2
    rcases Nat.lt_or_ge k 2 with q | q
    · exact q
    · exfalso
      obtain ⟨j, rfl⟩ : ∃ j, k = j + 2 := ⟨k - 2, by omega⟩
      have e : KS false (j + 2) = 99 := rfl
      rw [e] at h
      omega
def fieldsX (ad : Nat → Nat) (t k : Nat) (I : Nat → Int32) (J : Nat → Int64) : List Value := match t with
  | 0 => [.ref (ad (k + 1)), .int (I 1), .int (I 2), .int (I 3), .int (I 4), .int (I 5), .int (I 6), .int (I 7)]
  | 1 => [.ref (ad (k + 1)), .int (I 1)]
  | 2 => [.ref (ad (k + 1)), .ref (ad (k + 2)), .ref (ad (k + 3)), .ref (ad (k + 4)), .ref (ad (k + 5)), .int (I 5), .int (I 6), .int (I 7), .int (I 8), .int (I 9), .int (I 10)]
  | 3 => [.int (I 0), .int (I 1), .int (I 2), .int (I 3), .int (I 4), .int (I 5), .int (I 6), .int (I 7), .int (I 8), .int (I 9), .int (I 10), .int (I 11), .int (I 12), .int (I 13), .int (I 14), .ref (ad (k + 1))]
  | 4 => [.ref (ad (k + 1)), .ref (ad (k + 2)), .int (I 2)]
  | 5 => [.int (I 0), .int (I 1), .int (I 2), .int (I 3), .int (I 4), .int (I 5)]
  | 6 => [.ref (ad (k + 1)), .int (I 1)]
  | 7 => [.int (I 0), .int (I 1), .int (I 2), .int (I 3)]
  | 8 => [.ref (ad (k + 1)), .int (I 1), .ref (ad (k + 10)), .ref (ad (k + 13)), .int (I 4), .ref (ad (k + 14)), .int (I 6), .int (I 7), .long (J 8), .long (J 9)]
  | 9 => [.ref (ad (k + 1)), .int (I 1)]
  | 10 => [.ref (ad (0)), .ref (ad (225)), .ref (ad (227)), .ref (ad (228)), .ref (ad (229)), .ref (ad (230)), .ref (ad (232))]
  | _ => []
def tgt (t k : Nat) : List Nat := match t with
  | 0 => [k + 1]
  | 1 => [k + 1]
  | 2 => [k + 1, k + 2, k + 3, k + 4, k + 5]
  | 3 => [k + 1]
  | 4 => [k + 1, k + 2]
  | 5 => []
  | 6 => [k + 1]
  | 7 => []
  | 8 => [k + 1, k + 10, k + 13, k + 14]
  | 9 => [k + 1]
  | 10 => [0, 225, 227, 228, 229, 230, 232]
  | 50 => (List.range (alen 50)).map (rid 50 k)
  | 51 => (List.range (alen 51)).map (rid 51 k)
  | 52 => (List.range (alen 52)).map (rid 52 k)
  | 53 => (List.range (alen 53)).map (rid 53 k)
  | _ => []
def cellX (cA : Nat → ClassId) (ad : Nat → Nat) (t k : Nat) (I : Nat → Int32) (J : Nat → Int64) : va_E :=
  if t < 20 then .inr (t, fieldsX ad t k I J)
  else if t < 30 then .inl (cA 0, alen t, .inl I)
  else if t < 40 then .inl (cA 2, alen t, .inl I)
  else if t < 50 then .inl (cA 1, alen t, .inr (.inl J))
  else .inl (cA (if t = 50 then 3 else if t = 51 then 4 else 5), alen t, .inr (.inr (.inr (.inr (fun j => if j < alen t then some (ad (rid t k j)) else none)))))
theorem cellX_o {cA : Nat → ClassId} {ad : Nat → Nat} {t k : Nat} {I : Nat → Int32} {J : Nat → Int64} (h : t < 20) : cellX cA ad t k I J = .inr (t, fieldsX ad t k I J) := if_pos h
theorem cellX_i {cA : Nat → ClassId} {ad : Nat → Nat} {t k : Nat} {I : Nat → Int32} {J : Nat → Int64} (h : 20 ≤ t) (h2 : t < 30) : cellX cA ad t k I J = .inl (cA 0, alen t, .inl I) := by
  unfold cellX; rw [if_neg (by omega), if_pos h2]
theorem cellX_z {cA : Nat → ClassId} {ad : Nat → Nat} {t k : Nat} {I : Nat → Int32} {J : Nat → Int64} (h : 30 ≤ t) (h2 : t < 40) : cellX cA ad t k I J = .inl (cA 2, alen t, .inl I) := by
  unfold cellX; rw [if_neg (by omega), if_neg (by omega), if_pos h2]
theorem cellX_l {cA : Nat → ClassId} {ad : Nat → Nat} {t k : Nat} {I : Nat → Int32} {J : Nat → Int64} (h : 40 ≤ t) (h2 : t < 50) : cellX cA ad t k I J = .inl (cA 1, alen t, .inr (.inl J)) := by
  unfold cellX; rw [if_neg (by omega), if_neg (by omega), if_neg (by omega), if_pos h2]
theorem cellX_q {cA : Nat → ClassId} {ad : Nat → Nat} {t k : Nat} {I : Nat → Int32} {J : Nat → Int64} (h : 50 ≤ t) : cellX cA ad t k I J = .inl (cA (if t = 50 then 3 else if t = 51 then 4 else 5), alen t, .inr (.inr (.inr (.inr (fun j => if j < alen t then some (ad (rid t k j)) else none))))) := by
  unfold cellX; rw [if_neg (by omega), if_neg (by omega), if_neg (by omega), if_neg (by omega)]
def tysX (cA : Nat → ClassId) : List (ClassId × FieldType) := [(cA 0, .int), (cA 1, .int), (cA 2, .boolean), (cA 3, .object "TransitMeter$Path"), (cA 4, .object "TransitMeter$Round"), (cA 5, .object "TransitMeter$State")]
def XW (b : Bool) (cA : Nat → ClassId) (ad : Nat → Nat) (M : Mm) : va_W := (List.range (NS b)).map (fun k => (ad k, cellX cA ad (KS b k) k (M.1 k) (M.2 k)))
theorem XW_len {b : Bool} {cA : Nat → ClassId} {ad : Nat → Nat} {M : Mm} : (XW b cA ad M).length = NS b := by simp [XW]
theorem XW_at {b : Bool} {cA : Nat → ClassId} {ad : Nat → Nat} {M : Mm} {k : Nat} (h : k < NS b) : (XW b cA ad M)[k]? = some (ad k, cellX cA ad (KS b k) k (M.1 k) (M.2 k)) := by
  unfold XW
  rw [List.getElem?_map, List.getElem?_range h]
  rfl
theorem XW_get {b : Bool} {cA : Nat → ClassId} {ad : Nat → Nat} {M : Mm} {k t : Nat} (h : KS b k = t) (ht : t < 90) : (XW b cA ad M)[k]? = some (ad k, cellX cA ad t k (M.1 k) (M.2 k)) := by
  subst h
  exact XW_at (KS_lt ht)
theorem XW_inv {b : Bool} {cA : Nat → ClassId} {ad : Nat → Nat} {M : Mm} {k : Nat} {q : Nat × va_E} (h : (XW b cA ad M)[k]? = some q) : k < NS b ∧ q = (ad k, cellX cA ad (KS b k) k (M.1 k) (M.2 k)) := by
  have hk : k < NS b := by rw [← XW_len (cA := cA) (ad := ad) (M := M)]; exact (List.getElem?_eq_some_iff.mp h).1
  rw [XW_at hk] at h
  exact ⟨hk, (Option.some.inj h).symm⟩
theorem XW_set {b : Bool} {cA : Nat → ClassId} {ad : Nat → Nat} {M M' : Mm} {a t : Nat} {I : Nat → Int32} {J : Nat → Int64} (h : KS b a = t) (e1 : M'.1 a = I) (e2 : M'.2 a = J) (e3 : ∀ k, k ≠ a → M'.1 k = M.1 k ∧ M'.2 k = M.2 k) : (XW b cA ad M).set a (ad a, cellX cA ad t a I J) = XW b cA ad M' := by
  subst h; subst e1; subst e2
  apply List.ext_getElem?
  intro k
  rcases Nat.lt_or_ge k (NS b) with q | q
  · rw [XW_at q, List.getElem?_set]
    by_cases hk : a = k
    · subst hk
      rw [if_pos rfl, if_pos (by rw [XW_len]; exact q)]
    · rw [if_neg hk, XW_at q, (e3 k (Ne.symm hk)).1, (e3 k (Ne.symm hk)).2]
  · rw [List.getElem?_eq_none (by rw [List.length_set, XW_len]; exact q), List.getElem?_eq_none (by rw [XW_len]; exact q)]
theorem XW_ad {A : Nat → Prop} {b : Bool} {cA : Nat → ClassId} {ad : Nat → Nat} {M : Mm} (h : va_D A (XW b cA ad M)) {k : Nat} (hk : k < NS b) : A (ad k) := h.2 k _ (XW_at hk)
/-- the world, at a heap H that a method that began at H0 has come to; A: what it may change -/
def Xw (D : va_G) (b : Bool) (cA : Nat → ClassId) (ad : Nat → Nat) (M : Mm) (A : Nat → Prop) (H0 H : Heap) (locs : List Loc) : Prop := va_P D vwCl (XW b cA ad M) H ∧ va_D A (XW b cA ad M) ∧ va_S A H0 H locs
def Xp (D : va_G) (b : Bool) (cA : Nat → ClassId) (ad : Nat → Nat) (M : Mm) (H : Heap) : Prop := va_P D vwCl (XW b cA ad M) H ∧ va_D (fun _ => True) (XW b cA ad M)
def AX (b : Bool) (ad : Nat → Nat) : Nat → Prop := fun q => ∃ k, k < NS b ∧ q = ad k
def Nst (U : State) : Prop := va_Nw (.methodLinkNest "TransitMeter$State" 19 ⟨"TransitMeter$Profile", "<init>", "()V"⟩ "TransitMeter") U ∧ va_Nw (.methodLinkNest "TransitMeter$Rounds" 17 ⟨"TransitMeter$Round", "<init>", "()V"⟩ "TransitMeter") U ∧ va_Nw (.methodLinkNest "TransitMeter$State" 35 ⟨"TransitMeter$Path", "<init>", "()V"⟩ "TransitMeter") U ∧ va_Nw (.methodLinkNest "TransitMeter$Path" 21 ⟨"TransitMeter$Shot", "<init>", "()V"⟩ "TransitMeter") U ∧ va_Nw (.methodLinkNest "TransitMeter" 33 ⟨"TransitMeter$ActReader", "<init>", "()V"⟩ "TransitMeter") U ∧ va_Nw (.methodLinkNest "TransitMeter$ActReader" 11 ⟨"TransitMeter$Text", "<init>", "()V"⟩ "TransitMeter") U ∧ va_Nw (.methodLinkNest "TransitMeter" 45 ⟨"TransitMeter$Judgement", "<init>", "()V"⟩ "TransitMeter") U ∧ va_Nw (.methodLinkNest "TransitMeter$Path" 78 ⟨"TransitMeter", "asNumber", "(Z)I"⟩ "TransitMeter") U ∧ va_Nw (.methodLinkNest "TransitMeter$State" 98 ⟨"TransitMeter", "asNumber", "(Z)I"⟩ "TransitMeter") U ∧ va_Nw (.methodLinkNest "TransitMeter$Path" 94 ⟨"TransitMeter", "quotient", "(JJ)J"⟩ "TransitMeter") U ∧ va_Nw (.methodLinkNest "TransitMeter$Judgement" 81 ⟨"TransitMeter", "wholePeriods", "(II)I"⟩ "TransitMeter") U ∧ va_Nw (.methodLinkNest "TransitMeter$Path" 101 ⟨"TransitMeter", "limited", "(JI)I"⟩ "TransitMeter") U ∧ va_Nw (.methodLinkNest "TransitMeter$Judgement" 154 ⟨"TransitMeter", "contains", "(II)Z"⟩ "TransitMeter") U ∧ va_Nw (.methodLinkNest "TransitMeter$Judgement" 164 ⟨"TransitMeter", "quotient", "(JJ)J"⟩ "TransitMeter") U ∧ va_Nw (.methodLinkNest "TransitMeter$Profile" 38 ⟨"TransitMeter", "quotient", "(JJ)J"⟩ "TransitMeter") U ∧ va_Nw (.methodLinkNest "TransitMeter$Rounds" 40 ⟨"TransitMeter", "asNumber", "(Z)I"⟩ "TransitMeter") U ∧ va_Nw (.methodLinkNest "TransitMeter$Rounds" 52 ⟨"TransitMeter", "quotient", "(JJ)J"⟩ "TransitMeter") U ∧ va_Nw (.methodLinkNest "TransitMeter$Judgement" 206 ⟨"TransitMeter", "asNumber", "(Z)I"⟩ "TransitMeter") U ∧ va_Nw (.methodLinkNest "TransitMeter$Judgement" 216 ⟨"TransitMeter", "limited", "(JI)I"⟩ "TransitMeter") U ∧ va_Nw (.methodLinkNest "TransitMeter$Path" 84 ⟨"TransitMeter", "isWithin", "(III)Z"⟩ "TransitMeter") U
theorem Nst.warm {s U : State} (hW : s.WarmedH U.vm) (h : Nst s) : Nst U := by
  obtain ⟨h0, h1, h2, h3, h4, h5, h6, h7, h8, h9, h10, h11, h12, h13, h14, h15, h16, h17, h18, h19⟩ := h
  exact ⟨h0.warmM hW, h1.warmM hW, h2.warmM hW, h3.warmM hW, h4.warmM hW, h5.warmM hW, h6.warmM hW, h7.warmM hW, h8.warmM hW, h9.warmM hW, h10.warmM hW, h11.warmM hW, h12.warmM hW, h13.warmM hW, h14.warmM hW, h15.warmM hW, h16.warmM hW, h17.warmM hW, h18.warmM hW, h19.warmM hW⟩
def KX (D : va_G) (cA : Nat → ClassId) (U : State) : Prop := va_K D vwCl (tysX cA) U ∧ Nst U
theorem KX.warm {D : va_G} {cA : Nat → ClassId} {s U : State} (hW : s.WarmedH U.vm) (h : KX D cA s) : KX D cA U := ⟨va_K.moved hW.alike h.1, h.2.warm hW⟩

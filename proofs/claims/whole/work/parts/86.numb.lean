/-! THE READERS, 3: a number, both sides -/
def FrN (w : Nat) (N N' : Mm) : Prop := (∀ a, a ≠ 0 → a ≠ 15 → N'.1 a = N.1 a) ∧ (∀ j, j ≠ 21 → N'.1 0 j = N.1 0 j) ∧ (∀ j, j ≠ w → N'.1 15 j = N.1 15 j) ∧ N'.2 = N.2
theorem lim_if {c : Int32} : (if c = 48 then (1 : Int32) else 7) = nI (if c = 48 then 1 else 7) := by
  by_cases h : c = 48
  · rw [if_pos h, if_pos h]; rfl
  · rw [if_neg h, if_neg h]; rfl
theorem s_readNumber {M N : Mm} {t p w : Nat} {lo hi : Int32} (hT : Tt M N t) (hp : p ≤ t) (hw : w < 4) (h1 : gI M 229 1 = nI p) (h2 : gI M 229 2 = 0) (h21 : gI N 0 21 = nI p) :
    (∃ i v N', p + i ≤ t ∧ f_X0_readNumber lo hi M = some (v, wI M 229 1 (nI (p + i))) ∧ f_X11_readNumber (nI w) lo hi N = some (1, N') ∧ gI N' 0 21 = nI (p + i) ∧ gI N' 15 w = v ∧ FrN w N N') ∨
    (∃ N', f_X0_readNumber lo hi M = some (0, wI M 229 2 1) ∧ f_X11_readNumber (nI w) lo hi N = some (0, N') ∧ gI N' 0 21 = nI p ∧ FrN w N N') := by
  have ht := hT.1
  have hT0 : Tt M (wI N 15 w 0) t := ⟨hT.1, hT.2.1, (gI_o (by decide)).trans hT.2.2.1, fun k hk => (hT.2.2.2 k hk).trans (congrFun (wI_o (by decide)) k).symm⟩
  obtain ⟨⟨b1, v⟩, N', e1, e2, i, i1, i2, i3, i4, i5, i6, i7, i8, i9⟩ := s_digits (w := w) (lim := if chT (wI N 15 w 0) t p = 48 then 1 else 7) hT0 hp hw h1 ((gI_o (by decide)).trans h21) wI_e rfl
  simp only at i2 i5
  subst i2
  have i8' : i ≤ 7 := by
    by_cases c : chT (wI N 15 w 0) t p = 48
    · rw [if_pos c] at i1; omega
    · rw [if_neg c] at i1; exact i1
  have fr : ∀ q, FrN w N (wI N' 0 21 q) := fun q => ⟨fun a a0 a15 => (wI_o a0).trans ((i6 a a0 a15).trans (wI_o a15)), fun j hj => (wI_k hj).trans ((i7 j hj).trans (congrFun (wI_o (by decide)) j)), fun j hj => (congrFun (wI_o (by decide)) j).trans ((i8 j hj).trans (wI_k hj)), i9⟩
  unfold f_X0_readNumber f_X11_readNumber
  rw [h1, x_at hT0 (by omega), ob1_s, ob1_if, lim_if, e1, ob2_s, h2, if_pos rfl, h21, lt1_s (a := nI p), chk_p (inb_n hw (by decide)), ix_n (by omega), lt1_s (a := wI N 15 w 0), e2, ob1_s, i4, ← i5]
  simp only [lt1_s]
  by_cases c : i = 0
  · subst c
    rw [if_pos (show nI 0 = (0 : Int32) from rfl), if_pos (show nI (p + 0) ≤ nI p from Int32.le_refl _), ob1_s, if_pos rfl, ob1_s, chk_p (by decide)]
    exact Or.inr ⟨_, rfl, rfl, wI_e, fr _⟩
  · rw [if_neg (show ¬ nI i = (0 : Int32) from fun z => absurd ((nI_eq (by omega) (by decide)).mp (show nI i = nI 0 from z)) c), if_neg (show ¬ nI (p + i) ≤ nI p from nI_ge (by omega) (by omega)), chk_p (inb_n hw (by decide))]
    rcases in_c v lo hi M N' with ⟨w1, w2, -⟩ | ⟨w1, w2, -⟩
    · rw [w1, w2, ob1_s, ob1_s, if_pos rfl, if_pos rfl, ob1_s, if_pos rfl, ob1_s, chk_p (by decide)]
      exact Or.inr ⟨_, rfl, rfl, wI_e, fr _⟩
    · rw [w1, w2, ob1_s, ob1_s, if_neg one_0, if_neg one_0, ob1_s, if_neg one_0, ob1_s, chk_p (by decide), nI_add]
      exact Or.inl ⟨i, v, _, i3, rfl, rfl, wI_e, (gI_o (by decide)).trans i5.symm, fr _⟩
/-- a reader that is faulty already goes on to read nothing -/
theorem x_number0 {M N : Mm} {t p : Nat} {lo hi : Int32} (hT : Tt M N t) (hp : p ≤ t) (h1 : gI M 229 1 = nI p) (h2 : ¬ gI M 229 2 = 0) : f_X0_readNumber lo hi M = some (0, wI M 229 2 1) := by
  have ht := hT.1
  have hT0 : Tt M (wI (wI N 15 0 0) 0 21 (nI p)) t := ⟨hT.1, hT.2.1, (gI_k (by decide)).trans ((gI_o (by decide)).trans hT.2.2.1), fun k hk => (hT.2.2.2 k hk).trans (congrFun ((wI_o (by decide)).trans (wI_o (by decide))) k).symm⟩
  obtain ⟨⟨b1, v⟩, N', e1, -⟩ := s_digits (w := 0) (lim := if chT (wI (wI N 15 0 0) 0 21 (nI p)) t p = 48 then 1 else 7) hT0 hp (by decide) h1 wI_e ((gI_o (by decide)).trans wI_e) rfl
  unfold f_X0_readNumber
  rw [h1, x_at hT0 (by omega), ob1_s, ob1_if, lim_if, e1, ob2_s, if_neg h2, lt1_s]

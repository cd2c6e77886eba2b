/-! THE READERS, 1: a character, a sign -/
def Tt (M N : Mm) (t : Nat) : Prop := t ≤ 100 ∧ gI M 230 1 = nI t ∧ gI N 0 9 = nI t ∧ ∀ k, k < t → M.1 231 k = N.1 8 k
def chT (N : Mm) (t p : Nat) : Int32 := if p < t then N.1 8 p else -1
theorem x_at {M N : Mm} {t p : Nat} (h : Tt M N t) (hp : p ≤ 200) : f_X9_at (nI p) M = some (chT N t p) := by
  obtain ⟨h1, h2, h3, h4⟩ := h
  unfold f_X9_at chT
  rw [if_neg (show ¬ nI p < 0 from fun z => nI_in (N := 201) (by omega) (by decide) (Or.inl z)), h2]
  by_cases c : p < t
  · rw [if_neg (show ¬ nI t ≤ nI p from nI_ge c (by omega)), if_neg (show ¬ (100 : Int32) ≤ nI p from nI_ge (b := 100) (by omega) (by decide)), chk_p (inb_n (by omega) (by decide)), ix_n (by omega), if_pos c]
    exact congrArg some (h4 p c)
  · rw [if_pos (show nI t ≤ nI p from nI_le (by omega) (by omega)), if_neg c]
theorem y_here {M N : Mm} {t p : Nat} (h : Tt M N t) (hp : p ≤ 200) (h21 : gI N 0 21 = nI p) : f_X11_here N = some (chT N t p) := by
  obtain ⟨h1, h2, h3, h4⟩ := h
  unfold f_X11_here chT
  rw [h3, h21]
  by_cases c : p < t
  · rw [if_neg (show ¬ nI t ≤ nI p from nI_ge c (by omega)), chk_p (inb_n (by omega) (by decide)), ix_n (by omega), if_pos c]
    rfl
  · rw [if_pos (show nI t ≤ nI p from nI_le (by omega) (by omega)), if_neg c]
theorem y_passes {M N : Mm} {t p : Nat} {s : Int32} (h : Tt M N t) (hp : p ≤ t) (h21 : gI N 0 21 = nI p) : f_X11_passes s N = some (if chT N t p = s then (1, wI N 0 21 (nI (p + 1))) else (0, wI N 0 21 (nI p))) := by
  have ht := h.1
  unfold f_X11_passes
  rw [y_here h (by omega) h21, ob1_s, ob1_if, ob1_if, h21]
  by_cases c : chT N t p = s
  · rw [if_pos c, if_pos c, if_neg one_0, lt1_s, chk_p (by decide), nI_succ]
  · rw [if_neg c, if_neg c, if_pos rfl, lt1_s, chk_p (by decide), Int32.add_zero]
theorem x_sign {M N : Mm} {t p : Nat} {s : Int32} (h : Tt M N t) (hp : p ≤ t) (h1 : gI M 229 1 = nI p) (h2 : gI M 229 2 = 0) : f_X0_readSign s M = some (if chT N t p = s then wI M 229 1 (nI (p + 1)) else wI M 229 2 1) := by
  have ht := h.1
  unfold f_X0_readSign
  rw [h2, if_pos rfl, h1, x_at h (by omega), ob1_s]
  by_cases c : chT N t p = s
  · rw [if_pos c, if_pos c, lt1_s, nI_succ]
  · rw [if_neg c, if_neg c, lt1_s]
theorem x_sign0 {M : Mm} {s : Int32} (h2 : ¬ gI M 229 2 = 0) : f_X0_readSign s M = some (wI M 229 2 1) := by
  unfold f_X0_readSign
  rw [if_neg h2, lt1_s]

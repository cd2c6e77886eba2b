/-! THE READERS, 2: a number -/
theorem in_dg {v : Int32} {X Y : Mm} : ∃ d : Int32, f_X10_isWithin v 48 57 X = some d ∧ f_X11_in v 48 57 Y = some d ∧ (d = 0 ∨ d = 1) := by
  rcases in_c v 48 57 X Y with ⟨w1, w2, -⟩ | ⟨w1, w2, -⟩
  · exact ⟨0, w1, w2, Or.inl rfl⟩
  · exact ⟨1, w1, w2, Or.inr rfl⟩
def NumI (N0 : Mm) (t p w i : Nat) (v : Int32) (N : Mm) : Prop := p + i ≤ t ∧ gI N 0 21 = nI (p + i) ∧ v = gI N 15 w ∧ ((∀ a, a ≠ 0 → a ≠ 15 → N.1 a = N0.1 a) ∧ (∀ j, j ≠ 21 → N.1 0 j = N0.1 0 j) ∧ (∀ j, j ≠ w → N.1 15 j = N0.1 15 j) ∧ N.2 = N0.2)
theorem s_digits {M N0 : Mm} {t p w lim : Nat} (hT : Tt M N0 t) (hp : p ≤ t) (hw : w < 4) (h1 : gI M 229 1 = nI p) (h21 : gI N0 0 21 = nI p) (h15 : gI N0 15 w = 0) (hl : lim = if chT N0 t p = 48 then 1 else 7) :
    ∃ b N', f_X0_readNumber_L29 M (nI lim) 1000 (0 : Int32) (0 : Int32) = some b ∧ f_X11_readNumber_L13 (nI w) (nI p) 1000 N0 = some N' ∧ ∃ i, i ≤ lim ∧ b.1 = nI i ∧ NumI N0 t p w i b.2 N' := by
  have ht := hT.1
  have l7 : lim = 1 ∧ chT N0 t p = 48 ∨ lim = 7 ∧ ¬ chT N0 t p = 48 := by
    by_cases c : chT N0 t p = 48
    · rw [if_pos c] at hl; exact Or.inl ⟨hl, c⟩
    · rw [if_neg c] at hl; exact Or.inr ⟨hl, c⟩
  refine (fun z => z) (lpB (fun f (s : Nat × Int32) => f_X0_readNumber_L29 M (nI lim) f (nI s.1) s.2) (fun f (N : Mm) => f_X11_readNumber_L13 (nI w) (nI p) f N) (fun k s N => s.1 + k = lim ∧ NumI N0 t p w s.1 s.2 N) (fun b N' => ∃ i, i ≤ lim ∧ b.1 = nI i ∧ NumI N0 t p w i b.2 N') (fun f k s N q => ?_) lim (0, 0) N0 1000 ⟨Nat.zero_add _, hp, h21, h15.symm, fun _ _ _ => rfl, fun _ _ => rfl, fun _ _ => rfl, rfl⟩ (by omega))
  obtain ⟨i, v⟩ := s
  obtain ⟨q1, q2, q3, q4, r1, r2, r3, r4⟩ := q
  simp only at q1 q2 q3 q4
  have hT' : Tt M N t := ⟨hT.1, hT.2.1, (r2 9 (by decide)).trans hT.2.2.1, fun k hk => (hT.2.2.2 k hk).trans (congrFun (r1 8 (by decide) (by decide)) k).symm⟩
  have ech : ∀ m, chT N t m = chT N0 t m := fun m => by unfold chT; rw [r1 8 (by decide) (by decide)]
  obtain ⟨d, d1, d2, d3⟩ := in_dg (v := chT N t (p + i)) (X := M) (Y := N)
  have eh := y_here hT' (show p + i ≤ 200 by omega) q3
  have ea : f_X9_at (nI p + nI i) M = some (chT N t (p + i)) := by rw [nI_add]; exact x_at hT' (by omega)
  simp only [f_X0_readNumber_L29, f_X11_readNumber_L13]
  rw [h1, ea, ob1_s, d1, ob1_s, eh]
  simp only [ob1_s, d2, ix_n (show w < 2 ^ 31 by omega), chk_p (inb_n hw (show 4 < 2 ^ 31 by decide)), lt1_s]
  rw [q3]
  rcases d3 with e | e
  · subst e
    rw [if_pos rfl, if_pos rfl]
    refine Or.inl ⟨(nI i, v), N, ?_, rfl, i, by omega, rfl, q2, q3, q4, r1, r2, r3, r4⟩
    by_cases c : nI lim ≤ nI i
    · rw [if_pos c]
    · rw [if_neg c]
  · subst e
    have hit : p + i < t := by
      by_cases c : p + i < t
      · exact c
      · exfalso
        have ec : chT N t (p + i) = -1 := if_neg c
        rw [ec] at d1
        exact absurd d1 (by unfold f_X10_isWithin; rw [if_pos (by decide)]; decide)
    rw [if_neg one_0, if_neg one_0]
    by_cases c : i = lim
    · subst c
      rw [if_pos (Int32.le_refl _)]
      refine Or.inl ⟨(nI i, v), N, rfl, ?_, i, Nat.le_refl _, rfl, q2, q3, q4, r1, r2, r3, r4⟩
      rcases l7 with ⟨a, b⟩ | ⟨a, b⟩
      · subst a
        rw [if_neg (show ¬ nI p + (7 : Int32) ≤ nI (p + 1) by rw [show nI p + (7 : Int32) = nI (p + 7) from nI_add p 7]; exact nI_ge (by omega) (by omega)), if_neg (show ¬ nI (p + 1) = nI p from fun z => absurd ((nI_eq (by omega) (by omega)).mp z) (by omega)), chk_p (inb_n (show p < 100 by omega) (by decide)), ix_n (by omega), if_pos ?_]
        have := ech p
        unfold chT at this b
        rw [if_pos (show p < t by omega)] at this b
        exact (congrFun (r1 8 (by decide) (by decide)) p).trans b
      · subst a
        rw [if_pos (show nI p + (7 : Int32) ≤ nI (p + 7) by rw [show nI p + (7 : Int32) = nI (p + 7) from nI_add p 7]; exact Int32.le_refl _)]
    · have il : i < lim := by omega
      have i7 : i < 7 := by rcases l7 with ⟨a, -⟩ | ⟨a, -⟩ <;> omega
      rw [if_neg (show ¬ nI lim ≤ nI i from nI_ge il (by omega)), if_neg (show ¬ nI p + (7 : Int32) ≤ nI (p + i) by rw [show nI p + (7 : Int32) = nI (p + 7) from nI_add p 7]; exact nI_ge (by omega) (by omega))]
      refine Or.inr ⟨k - 1, (i + 1, v * 10 + chT N t (p + i) - 48), wI (wI N 15 w (10 * gI N 15 w + chT N t (p + i) - 48)) 0 21 (nI (p + (i + 1))), by omega, ⟨by show i + 1 + (k - 1) = lim; omega, by show p + (i + 1) ≤ t; omega, wI_e, ?_, fun a a0 a15 => ?_, fun j hj => ?_, fun j hj => ?_, r4⟩, ?_, ?_⟩
      · show v * 10 + chT N t (p + i) - 48 = gI (wI (wI N 15 w _) 0 21 _) 15 w
        rw [gI_o (by decide), gI_1, wI_e, q4, Int32.mul_comm]
      · rw [wI_o a0, wI_o a15]; exact r1 a a0 a15
      · rw [wI_k hj, wI_o (by decide)]; exact r2 j hj
      · rw [wI_o (by decide), wI_k hj]; exact r3 j hj
      · rw [← nI_succ]
      · have e21 : gI (wI N 15 w (10 * gI N 15 w + chT N t (p + i) - 48)) 0 21 + 1 = nI (p + (i + 1)) := by rw [gI_o (by decide), q3, ← nI_succ, Nat.add_assoc]
        by_cases z : i = 0
        · subst z
          rw [Nat.add_zero, if_pos rfl]
          rw [Nat.add_zero] at e21
          rw [e21]
        · rcases l7 with ⟨a, b⟩ | ⟨a, b⟩
          · omega
          · rw [if_neg (show ¬ nI (p + i) = nI p from fun z' => absurd ((nI_eq (by omega) (by omega)).mp z') (by omega)), chk_p (inb_n (show p < 100 by omega) (by decide)), ix_n (by omega), if_neg ?_, e21]
            intro y
            apply b
            unfold chT
            rw [if_pos (by omega)]
            exact (congrFun (r1 8 (by decide) (by decide)) p).symm.trans y

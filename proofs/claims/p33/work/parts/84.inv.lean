/-! P33, 1: what holds of every meter, beside the picture; what is kept is a copy -/
def PgE (X' : Mm) (a : Nat) (X : Mm) (b : Nat) : Prop := (∀ o j, o < 28 → j < 16 → cov o j = true → X'.1 (a + o) j = X.1 (b + o) j) ∧ X'.2 a 8 = X.2 b 8 ∧ X'.2 a 9 = X.2 b 9
theorem PgE.rf {X : Mm} {a : Nat} : PgE X a X a := ⟨fun _ _ _ _ _ => rfl, rfl, rfl⟩
theorem PgE.tr {X X' X'' : Mm} {a b c : Nat} (h : PgE X' a X b) (h2 : PgE X'' c X' a) : PgE X'' c X b := ⟨fun o j q1 q2 q3 => (h2.1 o j q1 q2 q3).trans (h.1 o j q1 q2 q3), h2.2.1.trans h.2.1, h2.2.2.trans h.2.2⟩
theorem PgE.sy {X X' : Mm} {a b : Nat} (h : PgE X' a X b) : PgE X b X' a := ⟨fun o j q1 q2 q3 => (h.1 o j q1 q2 q3).symm, h.2.1.symm, h.2.2.symm⟩
theorem PgE.of {X X' : Mm} {a : Nat} (h : ∀ o, o < 28 → X'.1 (a + o) = X.1 (a + o)) (h2 : X'.2 a = X.2 a) : PgE X' a X a := ⟨fun o j q1 _ _ => congrFun (h o q1) j, congrFun h2 8, congrFun h2 9⟩
/-- a path, a round, a state -/
def SP (B : Nat) (A S : Nat → Int32) : Prop := (0 ≤ (A 12).toInt ∧ (A 12).toInt ≤ B) ∧ (2 < (A 10).toInt → A 12 = 0 ∧ -100000 ≤ (A 11).toInt ∧ (A 11).toInt ≤ 100000) ∧ (0 ≤ (A 10).toInt → (A 10).toInt < 3 → ¬ A 12 = 0) ∧ (S 0 = 1 → 0 ≤ (S 3).toInt ∧ (S 3).toInt ≤ 100)
def SR (R : Nat → Int32) : Prop := ((R 0 = -2000000005 ∧ R 1 = -2000000005 ∧ R 2 = 0 ∧ R 3 = 0 ∧ R 4 = 0) ∨ (¬ R 0 = -2000000005 ∧ ¬ R 1 = -2000000005 ∧ ¬ R 2 = 0 ∧ R 3 &&& (R 2 ^^^ (-1)) = 0 ∧ R 4 &&& R 2 = 0)) ∧ 0 ≤ (R 5).toInt ∧ (R 5).toInt ≤ 8
def SI (B : Nat) (I : Nat → Nat → Int32) (J : Nat → Int64) : Prop := (∀ i, i < 4 → SP B (I (2 + 2 * i)) (I (3 + 2 * i))) ∧ (∀ n, I 14 1 = nI n → n ≤ 12 → (n : Int) ≤ (I 0 6).toInt ∧ ∀ k, k < n → SR (I (16 + k))) ∧ (0 ≤ (I 0 7).toInt ∧ (I 0 7).toInt ≤ (I 0 6).toInt ∧ (I 0 6).toInt ≤ B) ∧ (0 ≤ (J 8).toInt ∧ (J 8).toInt ≤ B * 1000000000000) ∧ 0 ≤ (J 9).toInt ∧ (J 9).toInt ≤ B * 1000000000000
theorem SP_congr {B : Nat} {A S A' S' : Nat → Int32} (hA : ∀ j, j < 15 → A' j = A j) (hS : ∀ j, j < 4 → S' j = S j) (h : SP B A S) : SP B A' S' := by
  unfold SP at h ⊢
  rw [hA 10 (by decide), hA 11 (by decide), hA 12 (by decide), hS 0 (by decide), hS 3 (by decide)]
  exact h
theorem SR_congr {R R' : Nat → Int32} (hR : ∀ j, j < 6 → R' j = R j) (h : SR R) : SR R' := by
  unfold SR at h ⊢
  rw [hR 0 (by decide), hR 1 (by decide), hR 2 (by decide), hR 3 (by decide), hR 4 (by decide), hR 5 (by decide)]
  exact h
theorem SP_mono {B B' : Nat} (hB : B ≤ B') {A S : Nat → Int32} (h : SP B A S) : SP B' A S := ⟨⟨h.1.1, by have := h.1.2; omega⟩, h.2⟩
theorem SI_mono {B B' : Nat} (hB : B ≤ B') {I : Nat → Nat → Int32} {J : Nat → Int64} (h : SI B I J) : SI B' I J := by
  obtain ⟨h1, h2, ⟨h3, h4, h5⟩, ⟨h6, h7⟩, h8, h9⟩ := h
  exact ⟨fun i hi => SP_mono hB (h1 i hi), h2, ⟨h3, h4, by omega⟩, ⟨h6, by omega⟩, h8, by omega⟩
theorem SI_congr {B : Nat} {I I' : Nat → Nat → Int32} {J J' : Nat → Int64} (hI : ∀ o j, o < 28 → j < 16 → cov o j = true → I' o j = I o j) (hJ : J' 8 = J 8 ∧ J' 9 = J 9) (h : SI B I J) : SI B I' J' := by
  obtain ⟨h1, h2, h3, h4, h5⟩ := h
  refine ⟨fun i hi => SP_congr (fun j hj => hI _ _ (by omega) (by omega) (cov_p hi hj)) (fun j hj => hI _ _ (by omega) (by omega) (cov_s hi hj)) (h1 i hi), fun n hn hn12 => ?_, ?_, ?_, ?_⟩
  · rw [hI 14 1 (by decide) (by decide) rfl] at hn
    obtain ⟨a, b⟩ := h2 n hn hn12
    rw [hI 0 6 (by decide) (by decide) rfl]
    exact ⟨a, fun k hk => SR_congr (fun j hj => hI _ _ (by omega) (by omega) (cov_r (by omega) hj)) (b k hk)⟩
  · rw [hI 0 6 (by decide) (by decide) rfl, hI 0 7 (by decide) (by decide) rfl]
    exact h3
  · rw [hJ.1]
    exact h4
  · rw [hJ.2]
    exact h5
theorem SI_pg {B : Nat} {X X' : Mm} {a b : Nat} (h : PgE X' a X b) (h2 : SI B (vI X b) (X.2 b)) : SI B (vI X' a) (X'.2 a) := SI_congr (fun o j q1 q2 q3 => h.1 o j q1 q2 q3) ⟨h.2.1, h.2.2⟩ h2
def Inv (B : Nat) (X : Mm) : Prop := (∃ Y, Rel X Y) ∧ SI B (vI X 0) (X.2 0) ∧ (∀ c, X.1 225 1 = nI c → c ≤ 5 → ∀ j, j < c → SI B (vI X (28 * (j + 1))) (X.2 (28 * (j + 1)))) ∧ ∀ j, j < 2 → X.1 228 j = 1 → SI B (vI X (28 * (j + 6))) (X.2 (28 * (j + 6)))
theorem Inv.mono {B B' : Nat} (hB : B ≤ B') {X : Mm} (h : Inv B X) : Inv B' X := ⟨h.1, SI_mono hB h.2.1, fun c h1 h2 j hj => SI_mono hB (h.2.2.1 c h1 h2 j hj), fun j hj h1 => SI_mono hB (h.2.2.2 j hj h1)⟩
/-- only the present state (and what is judged) is another -/
def Out (X X' : Mm) : Prop := ∀ k, 28 ≤ k → k < 232 → X'.1 k = X.1 k ∧ X'.2 k = X.2 k
theorem Out.rf {X : Mm} : Out X X := fun _ _ _ => ⟨rfl, rfl⟩
theorem Out.tr {X X' X'' : Mm} (h : Out X X') (h2 : Out X' X'') : Out X X'' := fun k a b => ⟨((h2 k a b).1).trans (h k a b).1, ((h2 k a b).2).trans (h k a b).2⟩
theorem Inv.mod {B B' : Nat} {X X' : Mm} (h : Inv B X) (hY : ∃ Y, Rel X' Y) (ho : Out X X') (hS : SI B' (vI X' 0) (X'.2 0)) (hB : B ≤ B') : Inv B' X' := by
  have pg : ∀ a, 28 ≤ a → a + 28 ≤ 224 → PgE X' a X a := fun a h1 h2 => PgE.of (fun o q => (ho _ (by omega) (by omega)).1) (ho _ (by omega) (by omega)).2
  refine ⟨hY, hS, fun c h1 h2 j hj => ?_, fun j hj h1 => ?_⟩
  · rw [(ho 225 (by decide) (by decide)).1] at h1
    exact SI_pg (pg _ (by omega) (by omega)) (SI_mono hB (h.2.2.1 c h1 h2 j hj))
  · rw [(ho 228 (by decide) (by decide)).1] at h1
    exact SI_pg (pg _ (by omega) (by omega)) (SI_mono hB (h.2.2.2 j hj h1))
/-- what judging leaves -/
def Jd (X X' : Mm) : Prop := (∀ k, k < 232 → X'.1 k = X.1 k) ∧ X'.2 = X.2
theorem Jd.rf {X : Mm} : Jd X X := ⟨fun _ _ => rfl, rfl⟩
theorem Jd.tr {X X' X'' : Mm} (h : Jd X X') (h2 : Jd X' X'') : Jd X X'' := ⟨fun k hk => (h2.1 k hk).trans (h.1 k hk), h2.2.trans h.2⟩
theorem Jd.out {X X' : Mm} (h : Jd X X') : Out X X' := fun k _ b => ⟨h.1 k b, congrFun h.2 k⟩
theorem Jd.pg {X X' : Mm} (h : Jd X X') : PgE X' 0 X 0 := PgE.of (fun o q => h.1 _ (by omega)) (congrFun h.2 0)
theorem Inv.jd {B : Nat} {X X' : Mm} (h : Inv B X) (hY : ∃ Y, Rel X' Y) (hj : Jd X X') : Inv B X' := h.mod hY hj.out (SI_pg hj.pg h.2.1) (Nat.le_refl _)
/-! the history -/
def Top (X X' : Mm) : Prop := ∃ c, c < 5 ∧ X'.1 225 1 = nI (c + 1) ∧ PgE X' (28 * (c + 1)) X 0
theorem Top.keep {X X' X'' : Mm} (h : Top X X') (ho : Out X' X'') : Top X X'' := by
  obtain ⟨c, h1, h2, h3⟩ := h
  exact ⟨c, h1, by rw [(ho 225 (by decide) (by decide)).1, h2], h3.tr (PgE.of (fun o q => (ho _ (by omega) (by omega)).1) (ho _ (by omega) (by omega)).2)⟩
theorem Top.se {X Z X' : Mm} (h : Top X X') (hz : PgE X 0 Z 0) : Top Z X' := by
  obtain ⟨c, h1, h2, h3⟩ := h
  exact ⟨c, h1, h2, hz.tr h3⟩
theorem x_add {X : Mm} {c : Nat} (hc : c < 5) (hx : X.1 225 1 = nI c) (hb : BZ X 0) : ∃ X', (ob1 (f_X8_copyFrom (rid 52 226 (ix (gI X 225 1))) 0 X) fun M_5 => lt1 (wI M_5 225 1 ((gI M_5 225 1) + (1 : Int32))) fun M_6 => some M_6) = some X' ∧ X'.1 225 1 = nI (c + 1) ∧ PgE X' (28 * (c + 1)) X 0 ∧ ∀ k, (k < 28 * (c + 1) ∨ 28 * (c + 1) + 28 ≤ k) → (k ≠ 225 → X'.1 k = X.1 k) ∧ X'.2 k = X.2 k := by
  have ha : APT (28 * (c + 1)) 0 := Or.inr (by omega)
  obtain ⟨X2, ex, hX⟩ := cp8 (M := X) ha hb
  have gx : gI X2 225 1 = nI c := by
    show X2.1 225 1 = _
    rw [hX.1, if_neg (by omega)]
    exact hx
  refine ⟨wI X2 225 1 (nI (c + 1)), ?_, rfl, ⟨fun o j q1 q2 q3 => ?_, ?_, ?_⟩, fun k hk => ⟨fun h225 => funext fun j => ?_, funext fun j => ?_⟩⟩
  · rw [show gI X 225 1 = nI c from hx, rid52 hc, ex, ob1_s, lt1_s, gx, nI_succ]
  · rw [wI_o (by omega), hX.1, Nat.add_sub_cancel_left, if_pos ⟨by omega, by omega, q3⟩]
  · show X2.2 (28 * (c + 1)) 8 = _
    rw [hX.2, if_pos ⟨rfl, rfl⟩]
  · show X2.2 (28 * (c + 1)) 9 = _
    rw [hX.2, if_pos ⟨rfl, rfl⟩]
  · rw [wI_o h225, hX.1, if_neg (by omega)]
  · show X2.2 k j = _
    rw [hX.2, if_neg (by omega)]
theorem Inv.push {B : Nat} {X : Mm} (h : Inv B X) : ∃ X', f_X1_push X = some X' ∧ Inv B X' ∧ Kx X X' ∧ Top X X' := by
  obtain ⟨⟨Y, hR⟩, hS, hH, hL⟩ := h
  obtain ⟨X', Y', e1, -, kx, -, hR'⟩ := s_push hR
  have fin : ∀ {c : Nat}, c < 5 → X'.1 225 1 = nI (c + 1) → PgE X' (28 * (c + 1)) X 0 → (∀ j, j < c → SI B (vI X' (28 * (j + 1))) (X'.2 (28 * (j + 1)))) → ∃ X', f_X1_push X = some X' ∧ Inv B X' ∧ Kx X X' ∧ Top X X' := by
    intro c hc q1 q2 q3
    have p0 : PgE X' 0 X 0 := PgE.of (fun o q => (kx (0 + o) (by omega)).1 (by omega)) (kx 0 (by omega)).2
    refine ⟨X', e1, ⟨⟨Y', hR'⟩, SI_pg p0 hS, fun d h1 h2 j hj => ?_, fun j hj h1 => ?_⟩, kx, c, hc, q1, q2⟩
    · obtain rfl : d = c + 1 := (nI_eq (by omega) (by omega)).mp (h1.symm.trans q1)
      rcases Nat.eq_or_lt_of_le (show j ≤ c by omega) with e | e
      · subst e
        exact SI_pg q2 hS
      · exact q3 j e
    · rw [(kx 228 (by omega)).1 (by decide)] at h1
      exact SI_pg (PgE.of (fun o q => (kx _ (by omega)).1 (by omega)) (kx _ (by omega)).2) (hL j hj h1)
  obtain ⟨c, hc, hcx, -, -⟩ := hR.2.1
  have bz0 : BZ X 0 := PG_bz (hR.1)
  rcases Nat.eq_or_lt_of_le hc with e5 | e5
  · subst e5
    have ep : ∀ k, k < 28 ∨ 168 ≤ k → piH k = k := fun k hk => by
      unfold piH
      rw [if_neg (by omega), if_neg (by omega)]
    have s0 : ∀ o, o < 28 → (wI (shH X) 225 1 (4 : Int32)).1 (0 + o) = X.1 (0 + o) := fun o ho => by
      rw [wI_o (by omega)]
      show X.1 (piH (0 + o)) = _
      rw [ep _ (by omega)]
    have s02 : (wI (shH X) 225 1 (4 : Int32)).2 0 = X.2 0 := by
      show X.2 (piH 0) = _
      rw [ep _ (by omega)]
    have bz1 : BZ (wI (shH X) 225 1 (4 : Int32)) 0 := by
      refine ⟨fun i hi => ?_, ?_⟩
      · rw [s0 _ (by omega), s0 _ (by omega)]
        exact bz0.1 i hi
      · rw [show (0 : Nat) = 0 + 0 from rfl, s0 0 (by decide)]
        exact bz0.2
    obtain ⟨X2, e3, q1, q2, q3⟩ := x_add (X := wI (shH X) 225 1 (4 : Int32)) (c := 4) (by decide) rfl bz1
    have e4 : f_X1_push X = some X2 := by
      unfold f_X1_push
      have g4 : gI (wI (shH X) 225 1 (4 : Int32)) 225 1 = nI 4 := rfl
      rw [hcx, if_neg (show ¬ nI 5 < (5 : Int32) by decide), show f_X1_dropOldest X = some (wI (shH X) 225 1 (4 : Int32)) from rfl, ob1_s, ob1_s, g4, if_neg (show ¬ nI 4 < (0 : Int32) by decide), if_neg (show ¬ (5 : Int32) ≤ nI 4 by decide), chk_p (show inb (nI 4) 5 = true by decide), ← g4]
      exact e3
    obtain rfl : X' = X2 := Option.some.inj (e1.symm.trans e4)
    refine fin (c := 4) (by decide) q1 ((PgE.of s0 s02).tr q2) (fun j hj => ?_)
    have e : ∀ o, o < 28 → piH (28 * (j + 1) + o) = 28 * (j + 1 + 1) + o := fun o ho => by
      unfold piH
      rw [if_pos (by omega)]
      omega
    refine SI_pg (X := X) (b := 28 * (j + 1 + 1)) ⟨fun o i ho _ _ => ?_, ?_, ?_⟩ (hH 5 hcx (by decide) (j + 1) (by omega))
    · rw [(q3 _ (by omega)).1 (by omega), wI_o (by omega)]
      show X.1 (piH (28 * (j + 1) + o)) i = _
      rw [e o ho]
    · rw [(q3 _ (by omega)).2]
      show X.2 (piH (28 * (j + 1))) 8 = _
      rw [show piH (28 * (j + 1)) = 28 * (j + 1 + 1) from e 0 (by decide)]
    · rw [(q3 _ (by omega)).2]
      show X.2 (piH (28 * (j + 1))) 9 = _
      rw [show piH (28 * (j + 1)) = 28 * (j + 1 + 1) from e 0 (by decide)]
  · obtain ⟨X2, e3, q1, q2, q3⟩ := x_add e5 hcx bz0
    have e4 : f_X1_push X = some X2 := by
      unfold f_X1_push
      rw [hcx, if_pos (show nI c < (5 : Int32) from nI_lt e5 (by decide)), ob1_s, hcx, if_neg (nI_pos (by omega)), if_neg (show ¬ (5 : Int32) ≤ nI c from nI_ge e5 (by decide)), chk_p (inb_n e5 (by decide)), ← hcx]
      exact e3
    obtain rfl : X' = X2 := Option.some.inj (e1.symm.trans e4)
    refine fin e5 q1 q2 (fun j hj => SI_pg (PgE.of (fun o ho => (q3 _ (by omega)).1 (by omega)) (q3 _ (by omega)).2) (hH c hcx hc j hj))
theorem Inv.undo {B : Nat} {X X' : Mm} (h : Inv B X') (ht : Top X X') : ∃ r X'', f_X10_undo X' = some (r, X'') ∧ ¬ r < 0 ∧ Inv B X'' ∧ PgE X'' 0 X 0 := by
  obtain ⟨⟨Y, hR⟩, hS, hH, hL⟩ := h
  obtain ⟨c, hc, hcx, hp⟩ := ht
  obtain ⟨r, X2, Y2, e1, -, hR2⟩ := s_undo hR
  obtain ⟨d, hd, hdx, -, hpg⟩ := hR.2.1
  obtain rfl : d = c + 1 := (nI_eq (by omega) (by omega)).mp (hdx.symm.trans hcx)
  have ha : APT 0 (28 * (c + 1)) := Or.inl (by omega)
  have hG := hpg c (by omega)
  have bz1 : BZ (wI X' 225 1 (nI c)) (28 * (c + 1)) := by
    have q := PG_bz hG
    refine ⟨fun i hi => ?_, ?_⟩
    · rw [wI_o (by omega), wI_o (by omega)]
      exact q.1 i hi
    · rw [wI_o (by omega)]
      exact q.2
  obtain ⟨X3, ex, hX⟩ := cp8 (M := wI X' 225 1 (nI c)) ha bz1
  have n0 : ¬ nI (c + 1) = 0 := nI_ne0 (by omega) (by omega)
  have hx1 : f_X1_pop X' = some X3 := by
    unfold f_X1_pop
    have g : gI (wI X' 225 1 (nI (c + 1) - 1)) 225 1 = nI c := by rw [nI_pred]; rfl
    rw [show gI X' 225 1 = nI (c + 1) from hcx, if_neg (show ¬ nI (c + 1) ≤ 0 from nI_nle (by omega) (by omega)), if_neg (show ¬ (5 : Int32) < nI (c + 1) from nI_nlt (a := 5) (by omega) (by decide)), lt1_s, g, chk_p (inb_n (by omega) (by decide)), rid52 (by omega), nI_pred, ex]
    rfl
  have gx : gI X3 225 1 = nI c := by
    show X3.1 225 1 = _
    rw [hX.1, if_neg (by omega)]
    rfl
  have e2 : f_X10_undo X' = some (nI c, X3) := by
    unfold f_X10_undo
    rw [show gI X' 225 1 = nI (c + 1) from hcx, if_neg n0, hx1, ob1_s, gx]
  obtain ⟨rfl, rfl⟩ := Prod.mk.inj (Option.some.inj (e1.symm.trans e2))
  have kx : ∀ k, 28 ≤ k → k ≠ 225 → X2.1 k = X'.1 k := fun k hk h225 => funext fun j => by rw [hX.1, if_neg (by omega), wI_o h225]
  have kxj : ∀ k, 28 ≤ k → X2.2 k = X'.2 k := fun k hk => funext fun j => by rw [hX.2, if_neg (by omega)]; rfl
  have p0 : PgE X2 0 X' (28 * (c + 1)) := by
    refine ⟨fun o j q1 q2 q3 => ?_, ?_, ?_⟩
    · rw [hX.1, Nat.sub_zero, Nat.zero_add, if_pos ⟨by omega, by omega, q3⟩, wI_o (by omega)]
    · rw [hX.2, if_pos ⟨rfl, rfl⟩]; rfl
    · rw [hX.2, if_pos ⟨rfl, rfl⟩]; rfl
  refine ⟨nI c, X2, e2, nI_pos (by omega), ⟨⟨Y2, hR2⟩, SI_pg p0 (hH (c + 1) hcx (by omega) c (by omega)), fun b h1 h2 j hj => ?_, fun j hj h1 => ?_⟩, hp.tr p0⟩
  · obtain rfl : b = c := (nI_eq (by omega) (by omega)).mp (h1.symm.trans gx)
    exact SI_pg (PgE.of (fun o ho => kx _ (by omega) (by omega)) (kxj _ (by omega))) (hH (b + 1) hcx (by omega) j (by omega))
  · rw [kx 228 (by decide) (by decide)] at h1
    exact SI_pg (PgE.of (fun o ho => kx _ (by omega) (by omega)) (kxj _ (by omega))) (hL j hj h1)
/-! the slots -/
theorem Inv.save {B c : Nat} {X : Mm} (h : Inv B X) (hc : c < 2) : ∃ X', f_X10_save (nI c) X = some (X.1 0 6, X') ∧ Inv B X' ∧ PgE X' 0 X 0 ∧ PgE X' (28 * (c + 6)) X 0 ∧ X'.1 228 c = 1 := by
  obtain ⟨⟨Y, hR⟩, hS, hH, hL⟩ := h
  obtain ⟨r, X2, Y2, e1, -, hR2⟩ := s_save (nI c) hR
  have ha : APT (28 * (c + 6)) 0 := Or.inr (by omega)
  obtain ⟨X3, ex, hX⟩ := cp8 (M := X) ha (PG_bz hR.1)
  have e2 : f_X10_save (nI c) X = some (X.1 0 6, wI X3 228 c 1) := by
    unfold f_X10_save
    simp only [chk_p (inb_n (c := c) (N := 2) hc (by decide))]
    rw [if_neg (nI_pos (by omega)), if_pos (show nI c < (2 : Int32) from nI_lt hc (by decide)), rid53 hc, ex, ob1_s, ix_n (by omega), lt1_s]
    have : gI (wI X3 228 c 1) 0 6 = X.1 0 6 := by
      show (wI X3 228 c 1).1 0 6 = _
      rw [wI_o (by decide), hX.1, if_neg (by omega)]
    rw [this]
  obtain ⟨rfl, rfl⟩ := Prod.mk.inj (Option.some.inj (e1.symm.trans e2))
  have kx : ∀ k, k < 168 ∨ 224 ≤ k → k ≠ 228 → (wI X3 228 c 1).1 k = X.1 k := fun k hk h228 => by rw [wI_o h228]; exact funext fun j => by rw [hX.1, if_neg (by omega)]
  have kxj : ∀ k, k < 168 ∨ 224 ≤ k → (wI X3 228 c 1).2 k = X.2 k := fun k hk => funext fun j => by show X3.2 k j = _; rw [hX.2, if_neg (by omega)]
  have p0 : PgE (wI X3 228 c 1) 0 X 0 := PgE.of (fun o ho => kx _ (by omega) (by omega)) (kxj _ (by omega))
  have pc : PgE (wI X3 228 c 1) (28 * (c + 6)) X 0 := by
    refine ⟨fun o j q1 q2 q3 => ?_, ?_, ?_⟩
    · rw [wI_o (by omega), hX.1, Nat.add_sub_cancel_left, if_pos ⟨by omega, by omega, q3⟩]
    · show X3.2 _ 8 = _
      rw [hX.2, if_pos ⟨rfl, rfl⟩]
    · show X3.2 _ 9 = _
      rw [hX.2, if_pos ⟨rfl, rfl⟩]
  refine ⟨_, e2, ⟨⟨Y2, hR2⟩, SI_pg p0 hS, fun b h1 h2 j hj => ?_, fun j hj h1 => ?_⟩, p0, pc, wI_e⟩
  · rw [kx 225 (by omega) (by decide)] at h1
    exact SI_pg (PgE.of (fun o ho => kx _ (by omega) (by omega)) (kxj _ (by omega))) (hH b h1 h2 j hj)
  · by_cases e : j = c
    · subst e
      exact SI_pg pc hS
    · rw [wI_k e] at h1
      have h1' : X.1 228 j = 1 := by rw [← h1, hX.1, if_neg (by omega)]
      refine SI_pg (PgE.of (fun o ho => ?_) ?_) (hL j hj h1')
      · rw [wI_o (by omega)]
        exact funext fun i => by rw [hX.1, if_neg (by omega)]
      · exact funext fun i => by show X3.2 _ i = _; rw [hX.2, if_neg (by omega)]
theorem Inv.restore {B c : Nat} {X : Mm} (h : Inv B X) (hc : c < 2) (h1 : X.1 228 c = 1) : ∃ X', f_X10_restore (nI c) X = some (X'.1 0 6, X') ∧ Inv B X' ∧ PgE X' 0 X (28 * (c + 6)) := by
  obtain ⟨X1, e1, hI1, kx1, -⟩ := h.push
  obtain ⟨⟨Y, hR⟩, -⟩ := h
  obtain ⟨r, X2, Y2, e2, -, hR2⟩ := s_restore (nI c) hR
  obtain ⟨⟨Y1, hR1⟩, hS1, hH1, hL1⟩ := hI1
  have h11 : X1.1 228 c = 1 := by rw [(kx1 228 (by omega)).1 (by decide), h1]
  obtain ⟨t1, t2⟩ := hR1.2.2.1 c hc
  have hG : ∃ P V, PG (vI X1 (28 * (c + 6))) (X1.2 (28 * (c + 6))) P V := by
    rcases t2 with z | ⟨-, z⟩
    · exact absurd (h11.symm.trans (t1.trans z)) one_0
    · exact ⟨_, _, z⟩
  obtain ⟨P, V, hG⟩ := hG
  have ha : APT 0 (28 * (c + 6)) := Or.inl (by omega)
  obtain ⟨X3, ex, hX⟩ := cp8 (M := X1) ha (PG_bz hG)
  have e3 : f_X10_restore (nI c) X = some (X3.1 0 6, X3) := by
    unfold f_X10_restore
    simp only [chk_p (inb_n (c := c) (N := 2) hc (by decide))]
    rw [if_neg (nI_pos (by omega)), if_pos (show nI c < (2 : Int32) from nI_lt hc (by decide)), ix_n (by omega), if_neg (show ¬ gI X 228 c = 0 from fun z => one_0 (h1.symm.trans z)), e1, ob1_s, show rid 53 227 c = 28 * (c + 6) from rfl, ex, ob1_s]
    rfl
  obtain ⟨rfl, rfl⟩ := Prod.mk.inj (Option.some.inj (e2.symm.trans e3))
  have p0 : PgE X2 0 X1 (28 * (c + 6)) := by
    refine ⟨fun o j q1 q2 q3 => ?_, ?_, ?_⟩
    · rw [hX.1, Nat.sub_zero, Nat.zero_add, if_pos ⟨by omega, by omega, q3⟩]
    · rw [hX.2, if_pos ⟨rfl, rfl⟩]
    · rw [hX.2, if_pos ⟨rfl, rfl⟩]
  have pc : PgE X1 (28 * (c + 6)) X (28 * (c + 6)) := PgE.of (fun o ho => (kx1 _ (by omega)).1 (by omega)) (kx1 _ (by omega)).2
  have ho : Out X1 X2 := fun k h28 _ => ⟨funext fun j => by rw [hX.1, if_neg (by omega)], funext fun j => by rw [hX.2, if_neg (by omega)]⟩
  exact ⟨X2, e3, Inv.mod ⟨⟨Y1, hR1⟩, hS1, hH1, hL1⟩ ⟨Y2, hR2⟩ ho (SI_pg p0 (hL1 c hc h11)) (Nat.le_refl _), pc.tr p0⟩

/-! THE READERS, 10: the whole text read; the fault position -/
theorem Rel.g {X Y X' Y' : Mm} (h : Rel X Y) (a : GX X X') (b : GY Y Y') : Rel X' Y' :=
  Rel.of (PG_congr (fun o j ho _ _ => congrFun (a.1 o (by omega)) j) ⟨by rw [a.2], by rw [a.2]⟩ (fun k _ => congrFun (b.1 1 (by decide) (by decide)) k) ⟨by rw [b.2.2], by rw [b.2.2]⟩ h.pg) (Rest_keep (fun k h1 h2 => ⟨a.1 k (by omega), by rw [a.2]⟩) ⟨b.2.1 4 (by decide) (by decide), b.2.1 9 (by decide) (by decide)⟩ (fun q hq => b.1 q (by omega) (by omega)) (fun q hq => by rw [b.2.2]) h.rest)
theorem Rel.tt {X Y : Mm} (h : Rel X Y) : ∃ t, Tt X Y t := h.2.2.2
theorem x_more {M N : Mm} {t p : Nat} (h : Tt M N t) (hp : p ≤ t) (h1 : gI M 229 1 = nI p) (h2 : gI M 229 2 = 0) : f_X0_hasMore M = some (if p < t then 1 else 0) := by
  have ht := h.1
  unfold f_X0_hasMore
  rw [if_pos h2, h.2.1, h1]
  by_cases c : p < t
  · rw [if_neg (show ¬ nI t ≤ nI p from nI_ge c (by omega)), if_pos c]
  · rw [if_pos (show nI t ≤ nI p from nI_le (by omega) (by omega)), if_neg c]
theorem x_more0 {M : Mm} (h2 : ¬ gI M 229 2 = 0) : f_X0_hasMore M = some 0 := by
  unfold f_X0_hasMore
  rw [if_neg h2]
/-- what a good act at p does, whatever else the memories hold: it goes on at p' -/
def Gact (t : Nat) (T : Nat → Int32) (p p' : Nat) : Prop := ∀ M N, St t p 0 M N → (∀ k, k < t → N.1 8 k = T k) →
  ∃ M' N', f_X0_readAct M = some M' ∧ f_X11_readAct N = some (1, N') ∧ St t p' 0 M' N' ∧ (gI M' 229 3 = 115 → St t p' 4 M' N') ∧ gI N' 0 22 = gI M' 229 3 ∧ isLet (gI M' 229 3) ∧ GX M M' ∧ GY N N'
theorem St.mix {t p : Nat} {T : Nat → Int32} {M N M2 N2 : Mm} (h : St t p 0 M N) (e : ∀ k, k < t → N.1 8 k = T k) (h2 : St t p 0 M2 N2) (e2 : ∀ k, k < t → N2.1 8 k = T k) : St t p 0 M N2 :=
  ⟨⟨h.1.1, h.1.2.1, h2.1.2.2.1, fun k hk => (h.1.2.2.2 k hk).trans ((e k hk).trans (e2 k hk).symm)⟩, h.2.1, h.2.2.1, h.2.2.2.1, h2.2.2.2.2.1, fun j hj => absurd hj (by omega)⟩
theorem gact {t p : Nat} {T : Nat → Int32} {M N : Mm} (hS : St t p 0 M N) (e : ∀ k, k < t → N.1 8 k = T k) {p' : Nat} {M' N' : Mm} (r1 : f_X0_readAct M = some M') (hS' : St t p' 0 M' N') : Gact t T p p' := by
  intro M2 N2 h2 e2
  have ht := hS.1.1
  rcases ok_act (hS.mix e h2 e2) with ⟨q, A, B, a1, a2, -, a4, -⟩ | ⟨q, A, B, a1, -, a3, -⟩
  · obtain rfl : M' = A := Option.some.inj (r1.symm.trans a1)
    have e1 : q = p' := (nI_eq (by have := a4.2.1; omega) (by have := hS'.2.1; omega)).mp (a4.2.2.1.symm.trans hS'.2.2.1)
    subst e1
    rcases ok_act h2 with ⟨q2, A2, B2, b1, b2, -, b4, b5, b6, b7, b8, b9⟩ | ⟨q2, A2, B2, b1, b2, -⟩
    · have eq := Option.some.inj (a2.symm.trans b2)
      have e3 : B = B2 := congrArg Prod.snd eq
      subst e3
      have e4 : q2 = q := (nI_eq (by have := b4.2.1; omega) (by have := a4.2.1; omega)).mp (b4.2.2.2.2.1.symm.trans a4.2.2.2.2.1)
      subst e4
      exact ⟨A2, B, b1, b2, b4, b5, b6, b7, b8, b9⟩
    · have eq := Option.some.inj (a2.symm.trans b2)
      exact absurd (congrArg Prod.fst eq) one_0
  · obtain rfl : M' = A := Option.some.inj (r1.symm.trans a1)
    exact absurd hS'.2.2.2.1 a3.2.2.2
/-- from p on the text is good -/
def Gd (t : Nat) (T : Nat → Int32) : Nat → Nat → Prop
  | 0, p => p = t
  | k + 1, p => p = t ∨ (p < t ∧ ∃ p', p < p' ∧ p' ≤ t ∧ Gact t T p p' ∧ Gd t T k p')
theorem Gd.t {t : Nat} {T : Nat → Int32} : ∀ k, Gd t T k t
  | 0 => rfl
  | _ + 1 => Or.inl rfl
theorem s_faultL {t : Nat} : ∀ (k f acts p : Nat) (M N : Mm), St t p 0 M N → t - p ≤ k → k + 1 < f → acts ≤ p →
    (∃ M' N', f_X10_faultPosition_L9 f (nI acts) M = some M' ∧ f_X11_faultOf_L5 f N = some (-1, N') ∧ gI M' 229 2 = 0 ∧ Gd t (N.1 8) k p ∧ GX M M' ∧ GY N N') ∨
    (∃ q M' N', q ≤ t ∧ f_X10_faultPosition_L9 f (nI acts) M = some M' ∧ f_X11_faultOf_L5 f N = some (nI q, N') ∧ ¬ gI M' 229 2 = 0 ∧ gI M' 229 1 = nI q ∧ GX M M' ∧ GY N N') := by
  intro k
  induction k with
  | zero =>
    intro f acts p M N hS hk hf ha
    have ht := hS.1.1
    have hp := hS.2.1
    obtain rfl : p = t := by omega
    obtain ⟨g, rfl⟩ : ∃ g, f = g + 1 := ⟨f - 1, by omega⟩
    refine Or.inl ⟨M, N, ?_, ?_, hS.2.2.2.1, rfl, GX.rf, GY.rf⟩
    · rw [f_X10_faultPosition_L9, x_more hS.1 hp hS.2.2.1 hS.2.2.2.1, ob1_s, if_neg (show ¬ p < p by omega), if_pos rfl, ite_self]
    · rw [f_X11_faultOf_L5, hS.1.2.2.1, hS.2.2.2.2.1, if_pos (show nI p ≤ nI p from Int32.le_refl _)]
  | succ k ih =>
    intro f acts p M N hS hk hf ha
    have ht := hS.1.1
    have hp := hS.2.1
    obtain ⟨g, rfl⟩ : ∃ g, f = g + 1 := ⟨f - 1, by omega⟩
    by_cases c : p < t
    · rw [f_X10_faultPosition_L9, x_more hS.1 hp hS.2.2.1 hS.2.2.2.1, ob1_s, if_pos c, if_neg one_0, if_neg (show ¬ (100 : Int32) ≤ nI acts from nI_ge (b := 100) (by omega) (by decide)), f_X11_faultOf_L5, hS.1.2.2.1, hS.2.2.2.2.1, if_neg (show ¬ nI t ≤ nI p from nI_ge c (by omega))]
      rcases ok_act hS with ⟨p', A, B, a1, a2, a3, a4, -, -, -, a8, a9⟩ | ⟨p', A, B, a1, a2, a3, a4, a8, a9⟩
      · rw [a1, a2, ob1_s, ob2_s, if_neg one_0, lt1_s, ← nI_succ]
        have hG := gact (T := N.1 8) hS (fun _ _ => rfl) a1 a4
        have e8 : B.1 8 = N.1 8 := a9.1 8 (by decide) (by decide)
        rcases ih g (acts + 1) p' A B a4 (by omega) (by omega) (by omega) with ⟨M', N', b1, b2, b3, b4, b5, b6⟩ | ⟨q, M', N', b0, b1, b2, b3, b4, b5, b6⟩
        · rw [e8] at b4
          exact Or.inl ⟨M', N', b1, b2, b3, Or.inr ⟨c, p', a3, a4.2.1, hG, b4⟩, a8.tr b5, a9.tr b6⟩
        · exact Or.inr ⟨q, M', N', b0, b1, b2, b3, b4, a8.tr b5, a9.tr b6⟩
      · rw [a1, a2, ob1_s, ob2_s, if_pos rfl, lt1_s]
        obtain ⟨g', rfl⟩ : ∃ g', g = g' + 1 := ⟨g - 1, by omega⟩
        refine Or.inr ⟨p', A, B, a3.2.1, ?_, by rw [a4], a3.2.2.2, a3.2.2.1, a8, a9⟩
        rw [f_X10_faultPosition_L9, x_more0 a3.2.2.2, ob1_s, if_pos rfl, ite_self]
    · obtain rfl : p = t := by omega
      refine Or.inl ⟨M, N, ?_, ?_, hS.2.2.2.1, Or.inl rfl, GX.rf, GY.rf⟩
      · rw [f_X10_faultPosition_L9, x_more hS.1 hp hS.2.2.1 hS.2.2.2.1, ob1_s, if_neg c, if_pos rfl, ite_self]
      · rw [f_X11_faultOf_L5, hS.1.2.2.1, hS.2.2.2.2.1, if_pos (show nI p ≤ nI p from Int32.le_refl _)]
theorem St.begin {t : Nat} {X Y : Mm} (h : Tt X Y t) : St t 0 0 (wI (wI X 229 1 0) 229 2 0) (wI Y 0 21 0) :=
  ⟨(h.g gx1 GY.rf).g gx1 gy21, by omega, (gI_k (by decide)).trans wI_e, wI_e, wI_e, fun j hj => absurd hj (by omega)⟩
theorem s_fault2 {X Y : Mm} {t : Nat} (hT : Tt X Y t) :
    (∃ X' Y', f_X10_faultPosition X = some (-2000000005, X') ∧ f_X11_faultOf Y = some (-1, Y') ∧ Gd t (Y.1 8) t 0 ∧ GX X X' ∧ GY Y Y') ∨
    (∃ q X' Y', q ≤ 100 ∧ f_X10_faultPosition X = some (nI q, X') ∧ f_X11_faultOf Y = some (nI q, Y') ∧ GX X X' ∧ GY Y Y') := by
  have ht := hT.1
  have e8 : (wI Y 0 21 0).1 8 = Y.1 8 := wI_o (by decide)
  unfold f_X10_faultPosition f_X11_faultOf f_X0_begin
  rw [lt1_s, lt1_s, ob1_s, lt1_s]
  rcases s_faultL (t := t) t 1000 0 0 _ _ (St.begin hT) (by omega) (by omega) (Nat.le_refl _) with ⟨M', N', b1, b2, b3, b4, b5, b6⟩ | ⟨q, M', N', b0, b1, b2, b3, b4, b5, b6⟩
  · rw [show f_X10_faultPosition_L9 1000 (0 : Int32) (wI (wI X 229 1 0) 229 2 0) = some M' from b1, ob1_s, if_pos b3, b2]
    rw [e8] at b4
    exact Or.inl ⟨_, _, rfl, rfl, b4, (gx1.tr gx1).tr b5, gy21.tr b6⟩
  · rw [show f_X10_faultPosition_L9 1000 (0 : Int32) (wI (wI X 229 1 0) 229 2 0) = some M' from b1, ob1_s, if_neg b3, b4, b2]
    exact Or.inr ⟨q, _, _, by omega, rfl, rfl, (gx1.tr gx1).tr b5, gy21.tr b6⟩
theorem s_faultPosition {X Y : Mm} (h : Rel X Y) : ∃ r X' Y', f_X10_faultPosition X = some (r, X') ∧ f_X11_faultPosition Y = some (r, Y') ∧ Rel X' Y' := by
  obtain ⟨t, hT⟩ := h.tt
  unfold f_X11_faultPosition
  rcases s_fault2 hT with ⟨X', Y', b1, b2, -, b5, b6⟩ | ⟨q, X', Y', b0, b1, b2, b5, b6⟩
  · rw [b1, b2, ob2_s, if_neg (by decide)]
    exact ⟨_, _, _, rfl, rfl, h.g b5 b6⟩
  · rw [b1, b2, ob2_s, if_pos (show (0 : Int32) ≤ nI q from nI_pos' (by omega))]
    exact ⟨_, _, _, rfl, rfl, h.g b5 b6⟩

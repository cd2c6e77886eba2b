/-! JUDGING, 2: the votes -/
def allW (X : Mm) : Int32 := sm (fun i => if hvI X i = 0 then 0 else X.1 (2 + 2 * i) 2) 4
def wt (X : Mm) (w : Nat) (s : Int32) : Int32 := sm (fun i => if hvI X i = 0 then 0 else if sh0 X w i = s then X.1 (2 + 2 * i) 2 else 0) 4
def tru (X : Mm) (w : Nat) (s : Int32) : Int32 := if s = 0 then 0 else if wt X w s * 100 < X.1 13 2 * allW X then 0 else 1
def shf (X : Mm) (w j : Nat) : Int32 := if tru X w (sh0 X w j) = 0 then sh0 X w j else 0
def cn (X : Mm) (w : Nat) : Nat → Nat
  | 0 => 0
  | i + 1 => cn X w i + (if ¬ tru X w (sh0 X w i) = 0 ∧ ∀ k, k < i → ¬ sh0 X w k = sh0 X w i then 1 else 0)
theorem cn_le {X : Mm} {w : Nat} : ∀ i, cn X w i ≤ i := by
  intro i
  induction i with
  | zero => exact Nat.le_refl _
  | succ i ih =>
    show cn X w i + _ ≤ _
    by_cases c : ¬ tru X w (sh0 X w i) = 0 ∧ ∀ k, k < i → ¬ sh0 X w k = sh0 X w i
    · rw [if_pos c]; omega
    · rw [if_neg c]; omega
theorem tru_0 {X : Mm} {w : Nat} : tru X w 0 = 0 := if_pos rfl
theorem sh0_hv {X : Mm} {w i : Nat} (h : ¬ sh0 X w i = 0) : ¬ hvI X i = 0 := fun q => h (if_pos q)
theorem rid50' {i : Nat} : rid 50 1 i = 2 + 2 * i := rfl
theorem x_allW {X M : Mm} (hA : ∀ i, i < 4 → M.1 (2 + 2 * i) 2 = X.1 (2 + 2 * i) 2) (hV : ∀ i, i < 4 → M.1 233 i = hvI X i) : f_X2_votingWeight M = some (allW X) := by
  unfold f_X2_votingWeight
  rw [lpSum (L := fun f v x => f_X2_votingWeight_L4 M f v x) (fun i => if hvI X i = 0 then 0 else X.1 (2 + 2 * i) 2) 4 (by decide) (fun f v => by rw [f_X2_votingWeight_L4, if_pos (show (4 : Int32) ≤ nI 4 by decide)]) (fun f i v hi => by
    rw [f_X2_votingWeight_L4, if_neg (show ¬ (4 : Int32) ≤ nI i from nI_ge hi (by decide)), ix_n (by omega), chk_p (inb_n hi (by decide)), chk_p (inb_n hi (by decide)), show gI M 233 i = hvI X i from hV i hi, rid50', show gI M (2 + 2 * i) 2 = X.1 (2 + 2 * i) 2 from hA i hi, ob1_if, lt1_s, lt1_s, nI_1])]
  rfl
theorem x_wt {M : Mm} {a : Nat} {s : Int32} : f_X2_weightOf a s M = some (sm (fun i => if M.1 a i = s then M.1 (2 + 2 * i) 2 else 0) 4) := by
  unfold f_X2_weightOf
  rw [lpSum (L := fun f v x => f_X2_weightOf_L5 M a s f v x) (fun i => if M.1 a i = s then M.1 (2 + 2 * i) 2 else 0) 4 (by decide) (fun f v => by rw [f_X2_weightOf_L5, if_pos (show (4 : Int32) ≤ nI 4 by decide)]) (fun f i v hi => by
    rw [f_X2_weightOf_L5, if_neg (show ¬ (4 : Int32) ≤ nI i from nI_ge hi (by decide)), if_neg (show ¬ (4 : Int32) ≤ nI i from nI_ge hi (by decide)), ix_n (by omega), chk_p (inb_n hi (by decide)), chk_p (inb_n hi (by decide)), rid50', ob1_if, lt1_s, lt1_s, nI_1]
    rfl)]
  rfl
theorem x_clear {M : Mm} {a : Nat} {s : Int32} : ∃ M', f_X2_clearShift a s M = some M' ∧ (∀ j, j < 4 → M'.1 a j = if M.1 a j = s then 0 else M.1 a j) ∧ (∀ k, k ≠ a → M'.1 k = M.1 k) ∧ M'.2 = M.2 := by
  refine lpUp (L := fun f x m => f_X2_clearShift_L2 a s f x m) 4 (fun i N => (∀ j, j < 4 → N.1 a j = if j < i ∧ M.1 a j = s then 0 else M.1 a j) ∧ (∀ k, k ≠ a → N.1 k = M.1 k) ∧ N.2 = M.2) _ (fun f N h => ⟨N, by rw [f_X2_clearShift_L2, if_pos (show (4 : Int32) ≤ nI 4 by decide)], fun j hj => ?_, h.2⟩) (fun f i N hi h => ?_) (by decide) ⟨fun j _ => by rw [if_neg (by omega)], fun _ _ => rfl, rfl⟩
  · have e : gI N a i = M.1 a i := by
      show N.1 a i = _
      rw [h.1 i hi, if_neg (by omega)]
    rw [f_X2_clearShift_L2, if_neg (show ¬ (4 : Int32) ≤ nI i from nI_ge hi (by decide)), ix_n (by omega), chk_p (inb_n hi (by decide)), chk_p (inb_n hi (by decide)), e]
    by_cases c : M.1 a i = s
    · rw [if_pos c, lt1_s, ob1_s, lt1_s, nI_1]
      refine Or.inr ⟨wI N a i 0, ⟨fun j hj => ?_, fun k hk => ?_, h.2.2⟩, rfl⟩
      · by_cases d : j = i
        · subst d; rw [wI_e, if_pos ⟨by omega, c⟩]
        · rw [wI_k d, h.1 j hj]
          by_cases e : j < i ∧ M.1 a j = s
          · rw [if_pos e, if_pos ⟨by omega, e.2⟩]
          · rw [if_neg e, if_neg (fun q => e ⟨by omega, q.2⟩)]
      · rw [wI_o hk, h.2.1 k hk]
    · rw [if_neg c, ob1_s, lt1_s, nI_1]
      refine Or.inr ⟨N, ⟨fun j hj => ?_, h.2⟩, rfl⟩
      rw [h.1 j hj]
      by_cases e : j < i ∧ M.1 a j = s
      · rw [if_pos e, if_pos ⟨by omega, e.2⟩]
      · rw [if_neg e, if_neg (fun q => ?_)]
        by_cases d : j = i
        · subst d; exact c q.2
        · exact e ⟨by omega, q.2⟩
  · rw [h.1 j hj]
    by_cases c : M.1 a j = s
    · rw [if_pos ⟨hj, c⟩, if_pos c]
    · rw [if_neg (fun q => c q.2), if_neg c]
/-- shifts that were found true before i are cleared -/
def clr (X : Mm) (w i j : Nat) : Int32 := if ¬ tru X w (sh0 X w j) = 0 ∧ ∃ k, k < i ∧ sh0 X w k = sh0 X w j then 1 else 0
theorem clr_or (X : Mm) (w i j : Nat) : (clr X w i j = 1 ∧ ¬ tru X w (sh0 X w j) = 0 ∧ ∃ k, k < i ∧ sh0 X w k = sh0 X w j) ∨ (clr X w i j = 0 ∧ ¬ (¬ tru X w (sh0 X w j) = 0 ∧ ∃ k, k < i ∧ sh0 X w k = sh0 X w j)) := by
  unfold clr
  by_cases c : ¬ tru X w (sh0 X w j) = 0 ∧ ∃ k, k < i ∧ sh0 X w k = sh0 X w j
  · rw [if_pos c]; exact Or.inl ⟨rfl, c⟩
  · rw [if_neg c]; exact Or.inr ⟨rfl, c⟩
theorem x_vote {X M : Mm} {w a : Nat} (ha : a = 234 ∨ a = 235) (hA : ∀ i, i < 4 → M.1 (2 + 2 * i) 2 = X.1 (2 + 2 * i) 2) (hv2 : M.1 13 2 = X.1 13 2) (hV : ∀ i, i < 4 → M.1 233 i = hvI X i) (hS : ∀ i, i < 4 → M.1 a i = sh0 X w i) :
    ∃ M', f_X2_clearTrueShifts a M = some (nI (cn X w 4), M') ∧ (∀ j, j < 4 → M'.1 a j = shf X w j) ∧ (∀ k, k ≠ a → M'.1 k = M.1 k) ∧ M'.2 = M.2 := by
  unfold f_X2_clearTrueShifts
  rw [x_allW hA hV, ob1_s]
  obtain ⟨b, hb, hP⟩ := lpUp (L := fun f x (s : Int32 × Mm) => f_X2_clearTrueShifts_L12 a (allW X) f s.1 x s.2) 4 (fun i (s : Int32 × Mm) => s.1 = nI (cn X w i) ∧ (∀ j, j < 4 → s.2.1 a j = if clr X w i j = 0 then sh0 X w j else 0) ∧ (∀ k, k ≠ a → s.2.1 k = M.1 k) ∧ s.2.2 = M.2) (fun (s : Int32 × Mm) => s.1 = nI (cn X w 4) ∧ (∀ j, j < 4 → s.2.1 a j = shf X w j) ∧ (∀ k, k ≠ a → s.2.1 k = M.1 k) ∧ s.2.2 = M.2) (fun f s h => by
    obtain ⟨x, N⟩ := s
    obtain ⟨h1, h2, h3⟩ := h
    refine ⟨(x, N), ?_, h1, fun j hj => ?_, h3⟩
    · show f_X2_clearTrueShifts_L12 a (allW X) (f + 1) x (nI 4) N = _
      rw [f_X2_clearTrueShifts_L12, if_pos (show (4 : Int32) ≤ nI 4 by decide)]
    · have e := h2 j hj
      show N.1 a j = _
      rw [show N.1 a j = (x, N).2.1 a j from rfl, e]
      unfold shf
      rcases clr_or X w 4 j with ⟨q, q1, -⟩ | ⟨q, q1⟩
      · rw [q, if_neg one_0, if_neg q1]
      · rw [q, if_pos rfl]
        by_cases c : tru X w (sh0 X w j) = 0
        · rw [if_pos c]
        · exact absurd ⟨c, j, hj, rfl⟩ q1) (fun f i s hi h => by
    obtain ⟨x, N⟩ := s
    obtain ⟨h1, h2, h3, h4⟩ := h
    obtain rfl : x = nI (cn X w i) := h1
    have h2' : ∀ j, j < 4 → N.1 a j = if clr X w i j = 0 then sh0 X w j else 0 := h2
    have h3' : ∀ k, k ≠ a → N.1 k = M.1 k := h3
    have e0 : cn X w (i + 1) = cn X w i + (if ¬ tru X w (sh0 X w i) = 0 ∧ ∀ k, k < i → ¬ sh0 X w k = sh0 X w i then 1 else 0) := rfl
    show (∃ b, f_X2_clearTrueShifts_L12 a (allW X) (f + 1) (nI (cn X w i)) (nI i) N = some b ∧ _) ∨ (∃ s' : Int32 × Mm, _ ∧ f_X2_clearTrueShifts_L12 a (allW X) (f + 1) (nI (cn X w i)) (nI i) N = f_X2_clearTrueShifts_L12 a (allW X) f s'.1 (nI (i + 1)) s'.2)
    refine Or.inr ?_
    rw [f_X2_clearTrueShifts_L12, if_neg (show ¬ (4 : Int32) ≤ nI i from nI_ge hi (by decide)), if_neg (show ¬ (4 : Int32) ≤ nI i from nI_ge hi (by decide)), ix_n (by omega), chk_p (inb_n hi (by decide)), lt1_s, show gI N a i = N.1 a i from rfl, h2' i hi]
    -- nothing is found at i
    have stay : (¬ (¬ tru X w (sh0 X w i) = 0 ∧ ∀ k, k < i → ¬ sh0 X w k = sh0 X w i)) → ∃ s' : Int32 × Mm, (s'.1 = nI (cn X w (i + 1)) ∧ (∀ j, j < 4 → s'.2.1 a j = if clr X w (i + 1) j = 0 then sh0 X w j else 0) ∧ (∀ k, k ≠ a → s'.2.1 k = M.1 k) ∧ s'.2.2 = M.2) ∧ f_X2_clearTrueShifts_L12 a (allW X) f (nI (cn X w i)) (nI i + 1) N = f_X2_clearTrueShifts_L12 a (allW X) f s'.1 (nI (i + 1)) s'.2 := fun hno => by
      refine ⟨(nI (cn X w i), N), ⟨?_, fun j hj => ?_, h3', h4⟩, by rw [nI_1]⟩
      · show nI (cn X w i) = nI (cn X w (i + 1))
        rw [e0, if_neg hno]
        rfl
      · show N.1 a j = _
        rw [h2' j hj]
        rcases clr_or X w i j with ⟨q, q1, k, q2, q3⟩ | ⟨q, q1⟩
        · rcases clr_or X w (i + 1) j with ⟨r, -⟩ | ⟨r, r1⟩
          · rw [q, r]
          · exact absurd ⟨q1, k, by omega, q3⟩ r1
        · rcases clr_or X w (i + 1) j with ⟨r, r1, k, r2, r3⟩ | ⟨r, r1⟩
          · exfalso
            rcases Nat.eq_or_lt_of_le (show k ≤ i by omega) with c | c
            · subst c
              refine hno ⟨by rw [r3]; exact r1, fun k' hk' e => q1 ⟨r1, k', hk', e.trans r3⟩⟩
            · exact q1 ⟨r1, k, c, r3⟩
          · rw [q, r]
    rcases clr_or X w i i with ⟨q, q1, k, q2, q3⟩ | ⟨q, q1⟩
    · rw [q, if_neg one_0, if_pos rfl, ob2_s, lt1_s]
      exact stay (fun z => z.2 k q2 q3)
    rw [q, if_pos rfl]
    by_cases c0 : sh0 X w i = 0
    · rw [if_pos c0, ob2_s, lt1_s]
      exact stay (fun z => z.1 (by rw [c0]; exact tru_0))
    rw [if_neg c0, x_wt, ob1_s]
    have ew : sm (fun j => if N.1 a j = sh0 X w i then N.1 (2 + 2 * j) 2 else 0) 4 = wt X w (sh0 X w i) := by
      unfold wt
      refine sm_congr (fun j hj => ?_)
      rw [h2' j hj, h3' (2 + 2 * j) (by omega), hA j hj]
      rcases clr_or X w i j with ⟨r, r1, k, r2, r3⟩ | ⟨r, r1⟩
      · rw [r, if_neg one_0, if_neg (fun z => c0 z.symm)]
        by_cases d : hvI X j = 0
        · rw [if_pos d]
        · rw [if_neg d, if_neg (fun z => ?_)]
          rw [z] at r1 r3
          exact q1 ⟨r1, k, r2, r3⟩
      · rw [r, if_pos rfl]
        by_cases d : hvI X j = 0
        · rw [if_pos d, if_neg (fun z => c0 (z.symm.trans (if_pos d)))]
        · rw [if_neg d]
    rw [ew, show gI N 13 2 = X.1 13 2 from (congrFun (h3' 13 (by omega)) 2).trans hv2]
    have et : tru X w (sh0 X w i) = if wt X w (sh0 X w i) * 100 < X.1 13 2 * allW X then 0 else 1 := if_neg c0
    by_cases c1 : wt X w (sh0 X w i) * 100 < X.1 13 2 * allW X
    · rw [if_pos c1, ob2_s, lt1_s]
      exact stay (fun z => z.1 (by rw [et, if_pos c1]))
    · obtain ⟨N2, k1, k2, k3, k4⟩ := x_clear (M := N) (a := a) (s := sh0 X w i)
      have t1 : ¬ tru X w (sh0 X w i) = 0 := by rw [et, if_neg c1]; exact one_0
      rw [if_neg c1, k1, ob1_s, lt1_s, ob2_s, lt1_s, nI_1, nI_1]
      refine ⟨(nI (cn X w i + 1), N2), ⟨?_, fun j hj => ?_, fun k hk => ?_, ?_⟩, rfl⟩
      · show nI (cn X w i + 1) = nI (cn X w (i + 1))
        rw [e0, if_pos ⟨t1, fun k hk e => q1 ⟨t1, k, hk, e⟩⟩]
      · show N2.1 a j = _
        rw [k2 j hj, h2' j hj]
        rcases clr_or X w i j with ⟨r, r1, k, r2, r3⟩ | ⟨r, r1⟩
        · rw [r, if_neg one_0]
          rcases clr_or X w (i + 1) j with ⟨u, -⟩ | ⟨u, u1⟩
          · rw [u, if_neg one_0, ite_self]
          · exact absurd ⟨r1, k, by omega, r3⟩ u1
        · rw [r, if_pos rfl]
          by_cases d : sh0 X w j = sh0 X w i
          · rw [if_pos d]
            rcases clr_or X w (i + 1) j with ⟨u, -⟩ | ⟨u, u1⟩
            · rw [u, if_neg one_0]
            · exact absurd ⟨by rw [d]; exact t1, i, by omega, d.symm⟩ u1
          · rw [if_neg d]
            rcases clr_or X w (i + 1) j with ⟨u, u1, k, u2, u3⟩ | ⟨u, u1⟩
            · exfalso
              rcases Nat.eq_or_lt_of_le (show k ≤ i by omega) with e | e
              · subst e; exact d u3.symm
              · exact r1 ⟨u1, k, e, u3⟩
            · rw [u, if_pos rfl]
      · show N2.1 k = _
        rw [k3 k hk]; exact h3' k hk
      · show N2.2 = _
        rw [k4]; exact h4) (by decide) (s := ((0 : Int32), M)) ⟨rfl, fun j hj => by
    show M.1 a j = _
    rcases clr_or X w 0 j with ⟨-, -, k, q, -⟩ | ⟨q, -⟩
    · exact absurd q (by omega)
    · rw [q, if_pos rfl]; exact hS j hj, fun _ _ => rfl, rfl⟩
  obtain ⟨x, N⟩ := b
  obtain ⟨rfl, r⟩ := hP
  refine ⟨N, ?_, r⟩
  rw [show f_X2_clearTrueShifts_L12 a (allW X) 1000 (0 : Int32) (0 : Int32) M = some (nI (cn X w 4), N) from hb]
  rfl

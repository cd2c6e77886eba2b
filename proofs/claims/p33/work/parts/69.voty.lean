/-! JUDGING, 3: the reference's votes -/
theorem Lk.w {X M : Mm} {n i : Nat} (h : Lk X M n) (hi : i < n) : M.1 1 (16 * i + 2) = X.1 (2 + 2 * i) 2 := (h.1 i hi).2.1.2.2.1
theorem y_allW {X M : Mm} {n : Nat} (h : Lk X M n) (hn : n ≤ 4) (hV : ∀ i, i < n → M.1 11 i = hvI X i) (hq : ∀ i, n ≤ i → i < 4 → hvI X i = 0) (s : Int32) : f_X11_weightOf (-1 : Int32) s M = some (allW X) := by
  unfold f_X11_weightOf
  rw [lpSum (L := fun f v x => f_X11_weightOf_L5 M (-1) s f v x) (fun i => if hvI X i = 0 then 0 else X.1 (2 + 2 * i) 2) n (by omega) (fun f v => by rw [f_X11_weightOf_L5, if_pos (by rw [show gI M 1 64 = nI n from h.2.1]; exact nI_le (Nat.le_refl _) (by omega))]) (fun f i v hi => by
    have i4 : i < 4 := by omega
    rw [f_X11_weightOf_L5, if_neg (by rw [show gI M 1 64 = nI n from h.2.1]; exact nI_ge hi (by omega)), ix_n (n := i) (by omega), chk_p (inb_n i4 (by decide)), show gI M 11 i = hvI X i from hV i hi, if_pos (show (-1 : Int32) < 0 by decide), yof2 i4, h.w hi, ob1_s, ob1_if, lt1_s, lt1_s, nI_1])]
  rw [ob1_s]
  unfold allW
  rw [sm_to hn (fun i h1 h2 => if_pos (hq i h1 h2))]
theorem y_wt {X M : Mm} {n w : Nat} (hw : w < 2) (h : Lk X M n) (hn : n ≤ 4) (hV : ∀ i, i < n → M.1 11 i = hvI X i) (hS : ∀ i, i < n → M.1 10 (2 * i + w) = sh0 X w i) (hq : ∀ i, n ≤ i → i < 4 → hvI X i = 0) (s : Int32) : f_X11_weightOf (nI w) s M = some (wt X w s) := by
  unfold f_X11_weightOf
  rw [lpSum (L := fun f v x => f_X11_weightOf_L5 M (nI w) s f v x) (fun i => if hvI X i = 0 then 0 else if sh0 X w i = s then X.1 (2 + 2 * i) 2 else 0) n (by omega) (fun f v => by rw [f_X11_weightOf_L5, if_pos (by rw [show gI M 1 64 = nI n from h.2.1]; exact nI_le (Nat.le_refl _) (by omega))]) (fun f i v hi => by
    have i4 : i < 4 := by omega
    have ev : (2 : Int32) * nI i + nI w = nI (2 * i + w) := (congrArg (· + nI w) (nI_mul 2 i)).trans (nI_add _ _)
    rw [f_X11_weightOf_L5, if_neg (by rw [show gI M 1 64 = nI n from h.2.1]; exact nI_ge hi (by omega)), ev, ix_n (n := i) (by omega), ix_n (n := 2 * i + w) (by omega), chk_p (inb_n i4 (by decide)), chk_p (inb_n (c := 2 * i + w) (by omega) (by decide)), show gI M 11 i = hvI X i from hV i hi, show gI M 10 (2 * i + w) = sh0 X w i from hS i hi, if_neg (nI_pos (by omega)), yof2 i4, h.w hi, ob1_s]
    by_cases c : hvI X i = 0
    · rw [if_pos c, if_pos c, ob1_s, lt1_s, lt1_s, nI_1]
    · rw [if_neg c, if_neg c, ob1_if, lt1_s, lt1_s, nI_1])]
  rw [ob1_s]
  unfold wt
  rw [sm_to hn (fun i h1 h2 => if_pos (hq i h1 h2))]
/-- is a shift among the first c truths -/
theorem y_among {M : Mm} {c : Nat} (hc : c ≤ 4) (its : Int32) : ∃ r : Int32, f_X11_vote_L84 (nI c) M its 1000 1 (0 : Int32) = some r ∧ ((r = 1 ∧ ∀ k, k < c → ¬ M.1 14 k = its) ∨ (r = 0 ∧ ∃ k, k < c ∧ M.1 14 k = its)) := by
  refine lpUp (L := fun f x s => f_X11_vote_L84 (nI c) M its f s x) c (fun i (s : Int32) => (s = 1 ∧ ∀ k, k < i → ¬ M.1 14 k = its) ∨ (s = 0 ∧ ∃ k, k < i ∧ M.1 14 k = its)) (fun r => (r = 1 ∧ ∀ k, k < c → ¬ M.1 14 k = its) ∨ (r = 0 ∧ ∃ k, k < c ∧ M.1 14 k = its)) (fun f s h => ⟨s, by rw [f_X11_vote_L84, if_pos (nI_le (Nat.le_refl _) (by omega))], h⟩) (fun f i s hi h => ?_) (by omega) (Or.inl ⟨rfl, fun k hk => absurd hk (by omega)⟩)
  rw [f_X11_vote_L84, if_neg (nI_ge hi (by omega)), chk_p (inb_n (by omega) (by decide)), ix_n (by omega)]
  rcases h with ⟨q, q1⟩ | ⟨q, k, q1, q2⟩
  · rw [q, if_neg one_0]
    by_cases d : gI M 14 i = its
    · rw [if_pos d, ob1_s, lt1_s, nI_1]
      exact Or.inr ⟨0, Or.inr ⟨rfl, i, by omega, d⟩, rfl⟩
    · rw [if_neg d, ob1_s, lt1_s, nI_1]
      refine Or.inr ⟨1, Or.inl ⟨rfl, fun k hk => ?_⟩, rfl⟩
      rcases Nat.eq_or_lt_of_le (show k ≤ i by omega) with e | e
      · subst e; exact d
      · exact q1 k e
  · rw [q, if_pos rfl, ob1_s, lt1_s, nI_1]
    exact Or.inr ⟨0, Or.inr ⟨rfl, k, by omega, q2⟩, rfl⟩
theorem y_among0 {M : Mm} {c : Nat} (hc : c ≤ 4) (its : Int32) : f_X11_vote_L84 (nI c) M its 1000 0 (0 : Int32) = some 0 := by
  obtain ⟨b, hb, rfl⟩ := lpUp (L := fun f x s => f_X11_vote_L84 (nI c) M its f s x) c (fun i (s : Int32) => s = 0) (fun r => r = 0) (fun f s h => ⟨s, by rw [f_X11_vote_L84, if_pos (nI_le (Nat.le_refl _) (by omega))], h⟩) (fun f i s hi h => by
    rw [f_X11_vote_L84, if_neg (nI_ge hi (by omega)), h, if_pos rfl, ob1_s, lt1_s, nI_1]
    exact Or.inr ⟨0, rfl, rfl⟩) (by omega) (s := (0 : Int32)) rfl
  exact hb
theorem y_vote1 {X M : Mm} {n w : Nat} (hw : w < 2) (h : Lk X M n) (hn : n ≤ 4) (hV : ∀ i, i < n → M.1 11 i = hvI X i) (hS : ∀ i, i < n → M.1 10 (2 * i + w) = sh0 X w i) (hq : ∀ i, n ≤ i → i < 4 → hvI X i = 0) :
    ∃ N, f_X11_vote_L12 (nI w) (allW X) 1000 (0 : Int32) (0 : Int32) M = some (nI (cn X w n), N) ∧ (∀ s, (∃ k, k < cn X w n ∧ N.1 14 k = s) ↔ (∃ j, j < n ∧ sh0 X w j = s ∧ ¬ tru X w s = 0)) ∧ (∀ k, k ≠ 14 → N.1 k = M.1 k) ∧ N.2 = M.2 := by
  obtain ⟨b, hb, hP⟩ := lpUp (L := fun f x (s : Int32 × Mm) => f_X11_vote_L12 (nI w) (allW X) f s.1 x s.2) n (fun i (s : Int32 × Mm) => s.1 = nI (cn X w i) ∧ (∀ v, (∃ k, k < cn X w i ∧ s.2.1 14 k = v) ↔ (∃ j, j < i ∧ sh0 X w j = v ∧ ¬ tru X w v = 0)) ∧ (∀ k, k ≠ 14 → s.2.1 k = M.1 k) ∧ s.2.2 = M.2) (fun (s : Int32 × Mm) => s.1 = nI (cn X w n) ∧ (∀ v, (∃ k, k < cn X w n ∧ s.2.1 14 k = v) ↔ (∃ j, j < n ∧ sh0 X w j = v ∧ ¬ tru X w v = 0)) ∧ (∀ k, k ≠ 14 → s.2.1 k = M.1 k) ∧ s.2.2 = M.2) (fun f s hs => by
    obtain ⟨x, N⟩ := s
    refine ⟨(x, N), ?_, hs⟩
    show f_X11_vote_L12 (nI w) (allW X) (f + 1) x (nI n) N = _
    rw [f_X11_vote_L12, if_pos (by rw [show gI N 1 64 = nI n from (congrFun (hs.2.2.1 1 (by decide)) 64).trans h.2.1]; exact nI_le (Nat.le_refl _) (by omega))]) (fun f i s hi hs => by
    obtain ⟨x, N⟩ := s
    obtain ⟨h1, h2, h3, h4⟩ := hs
    obtain rfl : x = nI (cn X w i) := h1
    have h2' : ∀ v, (∃ k, k < cn X w i ∧ N.1 14 k = v) ↔ (∃ j, j < i ∧ sh0 X w j = v ∧ ¬ tru X w v = 0) := h2
    have h3' : ∀ k, k ≠ 14 → N.1 k = M.1 k := h3
    have i4 : i < 4 := by omega
    have hcn := cn_le (X := X) (w := w) i
    have e0 : cn X w (i + 1) = cn X w i + (if ¬ tru X w (sh0 X w i) = 0 ∧ ∀ k, k < i → ¬ sh0 X w k = sh0 X w i then 1 else 0) := rfl
    show (∃ b, f_X11_vote_L12 (nI w) (allW X) (f + 1) (nI (cn X w i)) (nI i) N = some b ∧ _) ∨ (∃ s' : Int32 × Mm, _ ∧ f_X11_vote_L12 (nI w) (allW X) (f + 1) (nI (cn X w i)) (nI i) N = f_X11_vote_L12 (nI w) (allW X) f s'.1 (nI (i + 1)) s'.2)
    refine Or.inr ?_
    have hLk := h.same (Y' := N) (h3' 1 (by decide))
    have ev : (2 : Int32) * nI i + nI w = nI (2 * i + w) := (congrArg (· + nI w) (nI_mul 2 i)).trans (nI_add _ _)
    have ey : (if hvI X i = (0 : Int32) then some (0 : Int32) else (if sh0 X w i = (0 : Int32) then some (0 : Int32) else (ob1 (f_X11_weightOf (nI w) (sh0 X w i) N) fun r_9 => if (r_9 * (100 : Int32)) < ((gI N 1 80) * allW X) then some (0 : Int32) else some (1 : Int32)))) = some (tru X w (sh0 X w i)) := by
      by_cases c : hvI X i = 0
      · rw [if_pos c, show sh0 X w i = 0 from if_pos c, tru_0]
      · rw [if_neg c]
        unfold tru
        by_cases d : sh0 X w i = 0
        · rw [if_pos d, if_pos d]
        · rw [if_neg d, if_neg d, y_wt hw hLk hn (fun i hi => by rw [h3' 11 (by decide)]; exact hV i hi) (fun i hi => by rw [h3' 10 (by decide)]; exact hS i hi) hq, ob1_s, show gI N 1 80 = X.1 13 2 from hLk.2.2.2]
          by_cases e : wt X w (sh0 X w i) * 100 < X.1 13 2 * allW X
          · rw [if_pos e, if_pos e]
          · rw [if_neg e, if_neg e]
    rw [f_X11_vote_L12, if_neg (by rw [show gI N 1 64 = nI n from hLk.2.1]; exact nI_ge hi (by omega)), ev, chk_p (inb_n (c := 2 * i + w) (by omega) (by decide)), ix_n (n := 2 * i + w) (by omega), lt1_s, chk_p (inb_n i4 (by decide)), ix_n (n := i) (by omega), show gI N 10 (2 * i + w) = sh0 X w i from (congrFun (h3' 10 (by decide)) _).trans (hS i hi), show gI N 11 i = hvI X i from (congrFun (h3' 11 (by decide)) i).trans (hV i hi), ey, ob1_s]
    have stay : (¬ (¬ tru X w (sh0 X w i) = 0 ∧ ∀ k, k < i → ¬ sh0 X w k = sh0 X w i)) → ∃ s' : Int32 × Mm, (s'.1 = nI (cn X w (i + 1)) ∧ (∀ v, (∃ k, k < cn X w (i + 1) ∧ s'.2.1 14 k = v) ↔ (∃ j, j < i + 1 ∧ sh0 X w j = v ∧ ¬ tru X w v = 0)) ∧ (∀ k, k ≠ 14 → s'.2.1 k = M.1 k) ∧ s'.2.2 = M.2) ∧ f_X11_vote_L12 (nI w) (allW X) f (nI (cn X w i)) (nI i + 1) N = f_X11_vote_L12 (nI w) (allW X) f s'.1 (nI (i + 1)) s'.2 := fun hno => by
      have en : cn X w (i + 1) = cn X w i := by rw [e0, if_neg hno]; rfl
      refine ⟨(nI (cn X w i), N), ⟨by rw [en], fun v => ?_, h3', h4⟩, by rw [nI_1]⟩
      rw [en, h2' v]
      constructor
      · rintro ⟨j, q1, q2, q3⟩
        exact ⟨j, by omega, q2, q3⟩
      · rintro ⟨j, q1, q2, q3⟩
        rcases Nat.eq_or_lt_of_le (show j ≤ i by omega) with e | e
        · subst e
          have : ¬ ∀ k, k < j → ¬ sh0 X w k = sh0 X w j := fun z => hno ⟨by rw [q2]; exact q3, z⟩
          have ⟨k, hk⟩ := Classical.not_forall.mp this
          have ⟨hk1, hk2⟩ := Classical.not_imp.mp hk
          exact ⟨k, hk1, (Classical.not_not.mp hk2).trans q2, q3⟩
        · exact ⟨j, e, q2, q3⟩
    by_cases ct : tru X w (sh0 X w i) = 0
    · rw [ct, y_among0 (by omega), ob1_s, if_pos rfl, ob2_s, lt1_s]
      exact stay (fun z => z.1 ct)
    · have ct1 : tru X w (sh0 X w i) = 1 := by
        unfold tru at ct ⊢
        by_cases d : sh0 X w i = 0
        · exact absurd (if_pos d) ct
        · rw [if_neg d] at ct ⊢
          by_cases e : wt X w (sh0 X w i) * 100 < X.1 13 2 * allW X
          · exact absurd (if_pos e) ct
          · rw [if_neg e]
      rw [ct1]
      obtain ⟨r, r1, r2⟩ := y_among (M := N) (c := cn X w i) (by omega) (sh0 X w i)
      rw [r1, ob1_s]
      rcases r2 with ⟨rfl, r2⟩ | ⟨rfl, r2⟩
      · have hnew : ¬ tru X w (sh0 X w i) = 0 ∧ ∀ k, k < i → ¬ sh0 X w k = sh0 X w i := ⟨ct, fun k hk e => by
          obtain ⟨k', q1, q2⟩ := (h2' (sh0 X w i)).mpr ⟨k, hk, e, ct⟩
          exact r2 k' q1 q2⟩
        have en : cn X w (i + 1) = cn X w i + 1 := by rw [e0, if_pos hnew]
        rw [if_neg one_0, chk_p (inb_n (c := cn X w i) (by omega) (by decide)), ix_n (n := cn X w i) (by omega), lt1_s, lt1_s, ob2_s, lt1_s, nI_1, nI_1]
        refine ⟨(nI (cn X w i + 1), wI N 14 (cn X w i) (sh0 X w i)), ⟨by rw [en], fun v => ?_, fun k hk => ?_, h4⟩, rfl⟩
        · rw [en]
          show (∃ k, k < cn X w i + 1 ∧ (wI N 14 (cn X w i) (sh0 X w i)).1 14 k = v) ↔ _
          constructor
          · rintro ⟨k, q1, q2⟩
            rcases Nat.eq_or_lt_of_le (show k ≤ cn X w i by omega) with e | e
            · subst e
              rw [wI_e] at q2
              exact ⟨i, by omega, q2, by rw [← q2]; exact ct⟩
            · rw [wI_k (by omega)] at q2
              obtain ⟨j, z1, z2⟩ := (h2' v).mp ⟨k, e, q2⟩
              exact ⟨j, by omega, z2⟩
          · rintro ⟨j, q1, q2, q3⟩
            rcases Nat.eq_or_lt_of_le (show j ≤ i by omega) with e | e
            · subst e
              exact ⟨cn X w j, by omega, by rw [wI_e]; exact q2⟩
            · obtain ⟨k, z1, z2⟩ := (h2' v).mpr ⟨j, e, q2, q3⟩
              exact ⟨k, by omega, by rw [wI_k (by omega)]; exact z2⟩
        · show (wI N 14 _ _).1 k = _
          rw [wI_o hk]; exact h3' k hk
      · rw [if_pos rfl, ob2_s, lt1_s]
        obtain ⟨k, q1, q2⟩ := r2
        obtain ⟨j, z1, z2, -⟩ := (h2' (sh0 X w i)).mp ⟨k, q1, q2⟩
        exact stay (fun z => z.2 j z1 z2)) (by omega) (s := ((0 : Int32), M)) ⟨rfl, fun v => ⟨fun ⟨k, q, _⟩ => absurd q (by show ¬ k < 0; omega), fun ⟨j, q, _⟩ => absurd q (by omega)⟩, fun _ _ => rfl, rfl⟩
  obtain ⟨x, N⟩ := b
  obtain ⟨rfl, r⟩ := hP
  exact ⟨N, hb, r⟩
theorem y_clr1 {M : Mm} {c p i w : Nat} (hc : c ≤ 4) (hp : 2 * i + w = p) (hp8 : p < 8) (hz : ∀ k, k < c → ¬ M.1 14 k = 0) : ∃ N, f_X11_vote_L170 (nI w) (nI c) (nI i) 1000 (0 : Int32) M = some N ∧ ((N.1 10 p = 0 ∧ ∃ k, k < c ∧ M.1 10 p = M.1 14 k) ∨ (N.1 10 p = M.1 10 p ∧ ∀ k, k < c → ¬ M.1 10 p = M.1 14 k)) ∧ (∀ j, j ≠ p → N.1 10 j = M.1 10 j) ∧ (∀ k, k ≠ 10 → N.1 k = M.1 k) ∧ N.2 = M.2 := by
  refine lpUp (L := fun f x s => f_X11_vote_L170 (nI w) (nI c) (nI i) f x s) c (fun d N => ((N.1 10 p = 0 ∧ ∃ k, k < d ∧ M.1 10 p = M.1 14 k) ∨ (N.1 10 p = M.1 10 p ∧ ∀ k, k < d → ¬ M.1 10 p = M.1 14 k)) ∧ (∀ j, j ≠ p → N.1 10 j = M.1 10 j) ∧ (∀ k, k ≠ 10 → N.1 k = M.1 k) ∧ N.2 = M.2) _ (fun f N h => ⟨N, by rw [f_X11_vote_L170, if_pos (nI_le (Nat.le_refl _) (by omega))], h⟩) (fun f d N hd h => ?_) (by omega) ⟨Or.inr ⟨rfl, fun k hk => absurd hk (by omega)⟩, fun _ _ => rfl, fun _ _ => rfl, rfl⟩
  obtain ⟨h1, h2, h3, h4⟩ := h
  have ev : (2 : Int32) * nI i + nI w = nI p := by rw [← hp]; exact (congrArg (· + nI w) (nI_mul 2 i)).trans (nI_add _ _)
  have e14 : gI N 14 d = M.1 14 d := congrFun (h3 14 (by decide)) d
  rw [f_X11_vote_L170, if_neg (nI_ge hd (by omega)), ev, ix_n (n := p) (by omega), ix_n (n := d) (by omega)]
  simp only [chk_p (inb_n (c := p) (N := 8) hp8 (by decide)), chk_p (inb_n (c := d) (N := 4) (by omega) (by decide))]
  rw [e14, ob1_if, lt1_s, lt1_s, nI_1]
  refine Or.inr ⟨wI N 10 p (if gI N 10 p = M.1 14 d then 0 else gI N 10 p), ⟨?_, fun j hj => ?_, fun k hk => ?_, h4⟩, rfl⟩
  · rw [wI_e]
    rcases h1 with ⟨q, k, q1, q2⟩ | ⟨q, q1⟩
    · rw [show gI N 10 p = 0 from q, if_neg (fun z => hz d hd z.symm)]
      exact Or.inl ⟨rfl, k, by omega, q2⟩
    · rw [show gI N 10 p = M.1 10 p from q]
      by_cases c2 : M.1 10 p = M.1 14 d
      · rw [if_pos c2]
        exact Or.inl ⟨rfl, d, by omega, c2⟩
      · rw [if_neg c2]
        refine Or.inr ⟨rfl, fun k hk => ?_⟩
        rcases Nat.eq_or_lt_of_le (show k ≤ d by omega) with e | e
        · subst e; exact c2
        · exact q1 k e
  · rw [wI_k hj]; exact h2 j hj
  · rw [wI_o hk]; exact h3 k hk
theorem y_vote {X M : Mm} {n w : Nat} (hw : w < 2) (h : Lk X M n) (hn : n ≤ 4) (hV : ∀ i, i < n → M.1 11 i = hvI X i) (hS : ∀ i, i < n → M.1 10 (2 * i + w) = sh0 X w i) (hq : ∀ i, n ≤ i → i < 4 → hvI X i = 0) :
    ∃ N, f_X11_vote (nI w) M = some N ∧ (∀ i, i < n → N.1 10 (2 * i + w) = shf X w i) ∧ (∀ i, N.1 10 (2 * i + (1 - w)) = M.1 10 (2 * i + (1 - w))) ∧ N.1 0 15 = M.1 0 15 + nI (cn X w 4) ∧ (∀ j, j ≠ 15 → N.1 0 j = M.1 0 j) ∧ (∀ k, k ≠ 0 → k ≠ 10 → k ≠ 14 → N.1 k = M.1 k) ∧ N.2 = M.2 := by
  have e4 : cn X w n = cn X w 4 := by
    have key : ∀ d, n + d ≤ 4 → cn X w (n + d) = cn X w n := fun d => by
      induction d with
      | zero => intro _; rfl
      | succ d ih =>
        intro hd
        show cn X w (n + d) + (if ¬ tru X w (sh0 X w (n + d)) = 0 ∧ ∀ k, k < n + d → ¬ sh0 X w k = sh0 X w (n + d) then 1 else 0) = _
        have z0 : sh0 X w (n + d) = 0 := if_pos (hq _ (by omega) (by omega))
        have z1 : tru X w (sh0 X w (n + d)) = 0 := by rw [z0]; exact tru_0
        rw [if_neg (show ¬ (¬ tru X w (sh0 X w (n + d)) = 0 ∧ ∀ k, k < n + d → ¬ sh0 X w k = sh0 X w (n + d)) from fun z => z.1 z1), ih (by omega)]
        rfl
    have := key (4 - n) (by omega)
    rw [← this]
    congr 1
    omega
  obtain ⟨N1, k1, k2, k3, k4⟩ := y_vote1 hw h hn hV hS hq
  have hc4 : cn X w n ≤ 4 := Nat.le_trans (cn_le n) hn
  unfold f_X11_vote
  rw [y_allW h hn hV hq, ob1_s, k1, ob2_s, lt1_s]
  have tnz : ∀ k, k < cn X w n → ¬ N1.1 14 k = 0 := fun k hk z => by
    obtain ⟨j, -, -, q⟩ := (k2 0).mp ⟨k, hk, z⟩
    exact q tru_0
  have e15 : gI N1 0 15 = M.1 0 15 := congrFun (k3 0 (by decide)) 15
  obtain ⟨N, n1, n2, n3, n4, n5⟩ : ∃ N, f_X11_vote_L155 (nI w) (nI (cn X w n)) 1000 (0 : Int32) (wI N1 0 15 (gI N1 0 15 + nI (cn X w n))) = some N ∧ (∀ i, i < n → N.1 10 (2 * i + w) = shf X w i) ∧ (∀ i, N.1 10 (2 * i + (1 - w)) = M.1 10 (2 * i + (1 - w))) ∧ (∀ k, k ≠ 10 → N.1 k = (wI N1 0 15 (gI N1 0 15 + nI (cn X w n))).1 k) ∧ N.2 = M.2 := by
    refine (fun z => z) (lpUp (L := fun f x s => f_X11_vote_L155 (nI w) (nI (cn X w n)) f x s) n (fun i N => (∀ j, j < n → N.1 10 (2 * j + w) = if j < i then shf X w j else sh0 X w j) ∧ (∀ i, N.1 10 (2 * i + (1 - w)) = M.1 10 (2 * i + (1 - w))) ∧ (∀ k, k ≠ 10 → N.1 k = (wI N1 0 15 (gI N1 0 15 + nI (cn X w n))).1 k) ∧ N.2 = M.2) (fun N => (∀ i, i < n → N.1 10 (2 * i + w) = shf X w i) ∧ (∀ i, N.1 10 (2 * i + (1 - w)) = M.1 10 (2 * i + (1 - w))) ∧ (∀ k, k ≠ 10 → N.1 k = (wI N1 0 15 (gI N1 0 15 + nI (cn X w n))).1 k) ∧ N.2 = M.2) (fun f N hN => ⟨N, ?_, fun j hj => by rw [hN.1 j hj, if_pos hj], hN.2⟩) (fun f i N hi hN => ?_) (by omega) ⟨fun j hj => ?_, fun i => ?_, fun _ _ => rfl, k4⟩)
    · rw [f_X11_vote_L155, if_pos (by rw [show gI N 1 64 = nI n from (congrFun ((hN.2.2.1 1 (by decide)).trans ((wI_o (by decide)).trans (k3 1 (by decide)))) 64).trans h.2.1]; exact nI_le (Nat.le_refl _) (by omega))]
    · obtain ⟨q1, q2, q3, q4⟩ := hN
      have e14 : ∀ k, N.1 14 k = N1.1 14 k := fun k => congrFun ((q3 14 (by decide)).trans (wI_o (by decide))) k
      obtain ⟨N2, m1, m2, m3, m4, m5⟩ := y_clr1 (M := N) (c := cn X w n) (p := 2 * i + w) (i := i) (w := w) hc4 rfl (by omega) (fun k hk => by rw [e14]; exact tnz k hk)
      rw [f_X11_vote_L155, if_neg (by rw [show gI N 1 64 = nI n from (congrFun ((q3 1 (by decide)).trans ((wI_o (by decide)).trans (k3 1 (by decide)))) 64).trans h.2.1]; exact nI_ge hi (by omega)), m1, ob1_s, lt1_s, nI_1]
      refine Or.inr ⟨N2, ⟨fun j hj => ?_, fun j => ?_, fun k hk => ?_, ?_⟩, rfl⟩
      · by_cases c : j = i
        · subst c
          have eo : N.1 10 (2 * j + w) = sh0 X w j := by rw [q1 j hi, if_neg (by omega)]
          rw [if_pos (by omega)]
          unfold shf
          rcases m2 with ⟨z, k, z1, z2⟩ | ⟨z, z1⟩
          · rw [eo, e14] at z2
            obtain ⟨j', -, -, t⟩ := (k2 (sh0 X w j)).mp ⟨k, z1, z2.symm⟩
            rw [z, if_neg t]
          · rw [z, eo]
            by_cases t : tru X w (sh0 X w j) = 0
            · rw [if_pos t]
            · exfalso
              obtain ⟨k, y1, y2⟩ := (k2 (sh0 X w j)).mpr ⟨j, hj, rfl, t⟩
              exact z1 k y1 (by rw [eo, e14]; exact y2.symm)
        · rw [m3 _ (by omega), q1 j hj]
          by_cases c2 : j < i
          · rw [if_pos c2, if_pos (by omega)]
          · rw [if_neg c2, if_neg (by omega)]
      · rw [m3 _ (by omega)]; exact q2 j
      · rw [m4 k hk]; exact q3 k hk
      · rw [m5]; exact q4
    · rw [if_neg (by omega), wI_o (by decide), k3 10 (by decide)]; exact hS j hj
    · rw [wI_o (by decide), k3 10 (by decide)]
  refine ⟨N, n1, n2, n3, ?_, fun j hj => ?_, fun k h0 h10 h14 => ?_, n5⟩
  · rw [n4 0 (by decide), wI_e, e15, e4]
  · rw [n4 0 (by decide), wI_k hj, k3 0 (by decide)]
  · rw [n4 k h10, wI_o h0, k3 k h14]

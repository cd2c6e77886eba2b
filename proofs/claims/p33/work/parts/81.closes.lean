/-! CLOSING, 7: both sides -/
theorem pair_eq {a b : Int32} {M : Mm} (h : a = b) : some (a, M) = some (b, M) := by rw [h]
def clX (M : Mm) : Option (Int32 × Mm) := ob1 (f_X2_judge (gI M 13 1) M) fun M_1 => ob1 (f_X2_settle M_1) fun M_2 => some ((gI M_2 232 10), M_2)
/-- what closing leaves alone, and that its answer is no error -/
def CF (X Y X' Y' : Mm) (r : Int32) : Prop := (r = -2000000005 ∨ -1000000 ≤ r ∧ r ≤ 1000000) ∧ (∀ k, 28 ≤ k → k < 232 → X'.1 k = X.1 k) ∧ (∀ a, a = 8 ∨ 15 ≤ a → Y'.1 a = Y.1 a) ∧ ∀ j, j < 15 ∨ 19 ≤ j → Y'.1 0 j = Y.1 0 j
theorem RelC.of {X Y Xf Yf : Mm} {r : Int32} (h : PG Xf.1 (Xf.2 0) (Yf.1 1) (Yf.2 2)) (h2 : Rest Xf Yf ∧ CF X Y Xf Yf r) : Rel Xf Yf ∧ CF X Y Xf Yf r := ⟨Rel.of h h2.1, h2.2⟩
theorem s_closes {X Y : Mm} (h : Rel X Y) : ∃ r X' Y', clX X = some (r, X') ∧ f_X11_closes Y = some (r, Y') ∧ Rel X' Y' ∧ CF X Y X' Y' r := by
  obtain ⟨k1, k2⟩ := sk_ok h
  obtain ⟨X1, Y1, n, hs, e1, e2, J⟩ := s_judge h k2
  obtain ⟨M, N, l1, l2, ⟨m1, m2⟩, ⟨n1, n2, n3⟩, hP⟩ := s_paths h k2 J
  obtain ⟨hA, ⟨x1, x2⟩, ⟨y1, y2, y3⟩, -, -, ⟨r5, r6, r16, r17, r18⟩, hm⟩ := J
  obtain ⟨-, ⟨nf, hF⟩, hS, ⟨nr, hR⟩, hsw, hcl, hvo⟩ := h.pg
  obtain ⟨hn, hx, hy, hp, hq⟩ := id hA
  have y1p : Y1.1 1 = Y.1 1 := y1 1 (Or.inl rfl)
  have n64 : N.1 1 64 = nI n := (n3 64 (by omega)).trans ((congrFun y1p 64).trans hy)
  obtain ⟨M2, c1, c2, c3, c4⟩ := x_clr43 (M := M)
  obtain ⟨N2, d1, d2, d3, d4, d5⟩ := y_clr52 (M := N) hn n64
  -- what stays on each side
  have xo : ∀ k, k < 232 → (k < 2 ∨ 10 ≤ k) → M2.1 k = X.1 k := fun k h1 h2 => (c3 k (by omega) (by omega) (by omega) (by omega)).trans ((m1 k (fun j hj => by omega)).trans (x1 k h1))
  have x232 : M2.1 232 = X1.1 232 := (c3 232 (by decide) (by decide) (by decide) (by decide)).trans (m1 232 (fun j hj => by omega))
  have xj : M2.2 = X.2 := c4.trans (m2.trans x2)
  have yo : ∀ a, a ≠ 1 → N2.1 a = Y1.1 a := fun a ha => (d4 a ha).trans (n1 a ha)
  have yk : ∀ k, 64 ≤ k → N2.1 1 k = Y.1 1 k := fun k hk => (d3 k (fun i hi => by omega)).trans ((n3 k (by omega)).trans (congrFun y1p k))
  have yj : N2.2 = Y1.2 := d5.trans n2
  have PA2 : PA n M2.1 (N2.1 1) := by
    refine ⟨hn, (congrFun (xo 0 (by decide) (by decide)) 1).trans hx, (yk 64 (by decide)).trans hy, fun i hi => ?_, fun i h1 h2 => ?_⟩
    · have eA : M2.1 (2 + 2 * i) = M.1 (2 + 2 * i) := c3 _ (by omega) (by omega) (by omega) (by omega)
      rw [eA]
      exact PL_clear (hP i hi) (c2 i (by omega)) (d2 i hi) (fun j hj => d3 _ (fun q hq => by omega))
    · have eA : M2.1 (2 + 2 * i) = X.1 (2 + 2 * i) := (c3 _ (by omega) (by omega) (by omega) (by omega)).trans ((m1 _ (fun j hj => by omega)).trans (x1 _ (by omega)))
      rw [eA]
      obtain ⟨p1, p2, p3, p4, p5, p6, p7, -⟩ := hq i h1 h2
      exact ⟨p1, p2, p3, p4, p5, p6, p7, c2 i h2⟩
  -- the number and the mean that are kept
  have hv : ∀ {α : Type} (k : Int32 → Option α), ob1 (if hs = 0 then some (-2000000005 : Int32) else ob1 (f_X11_roundVelocity Y1) fun r_4 => some r_4) k = k (X1.1 232 10) := fun k => by
    rcases hm with ⟨-, q, -, q2, -⟩ | ⟨-, q, -, -, q2, -⟩
    · rw [if_pos q, ob1_s, q2]
    · rw [if_neg (by rw [q]; decide), q2, ob1_s, ob1_s]
  have ha : X1.1 232 10 = if hs = 0 then -2000000005 else X1.1 232 10 := by
    rcases hm with ⟨-, q, -, q2, -⟩ | ⟨-, q, -⟩
    · rw [if_pos q, q2]
    · rw [if_neg (by rw [q]; decide)]
  have hb : X1.1 232 9 = if hs = 0 then -2000000005 else Int64.toInt32 (gJ N2 0 19) := by
    rcases hm with ⟨-, q, q2, -⟩ | ⟨-, q, q2, -⟩
    · rw [if_pos q, q2]
    · rw [if_neg (by rw [q]; decide), show gJ N2 0 19 = Y1.2 0 19 from congrFun (congrFun yj 0) 19, q2, i_eq, Int64.toInt_toInt32, Int32.toInt_toInt64]
      have := i_rng (X1.1 232 9)
      rw [fb_bmod (by omega) (by omega)]
  obtain ⟨Z, e3, z1, z2, z3⟩ := y_keeps (Y := N2) (hs := hs) (v := X1.1 232 10) (a := X1.1 232 10) (b := X1.1 232 9) ha hb
  have nk : ∀ k, k < 86 → (kpY Z (X1.1 232 10) (X1.1 232 9)).1 1 k = N2.1 1 k := fun k hk => (kp_k (Or.inl hk)).trans ((z1 k).trans (if_neg (by omega)))
  have no : ∀ a, a ≠ 1 → (kpY Z (X1.1 232 10) (X1.1 232 9)).1 a = Y1.1 a := fun a ha => (kp_o ha).trans ((z2 a ha).trans (yo a ha))
  have nj : (kpY Z (X1.1 232 10) (X1.1 232 9)).2 = Y1.2 := z3.trans yj
  have xk : ob1 (f_X6_startLatest M2) f_X2_fillIn = some (kpX M2) := x_keeps
  have ko : ∀ k, k < 2 ∨ (10 ≤ k ∧ k < 14) ∨ k = 15 → (kpX M2).1 k = X.1 k := fun k hk => (kx_o (by omega)).trans (xo k (by omega) (by omega))
  have kj : ∀ k, k < 16 ∨ 28 ≤ k → (kpX M2).2 k = X.2 k := fun k hk => (kx_2 hk).trans (congrFun xj k)
  have fA : PA n (kpX M2).1 ((kpY Z (X1.1 232 10) (X1.1 232 9)).1 1) := PA_congr (congrFun (kx_o (by omega)) 1) (fun i hi => ⟨fun j _ => congrFun (kx_o (by omega)) j, fun j _ => congrFun (kx_o (by omega)) j⟩) (fun k hk => nk k (by omega)) PA2
  have fF : PF nf ((kpX M2).1 10 2) ((kpX M2).1 11) ((kpX M2).1 12) ((kpY Z (X1.1 232 10) (X1.1 232 9)).1 1) := PF_congr (congrFun (ko 10 (by omega)) 2) (fun k _ => ⟨congrFun (ko 11 (by omega)) k, congrFun (ko 12 (by omega)) k⟩) (fun k q1 q2 => (nk k (by omega)).trans (yk k (by omega))) hF
  have fS : PS ((kpX M2).1 13) ((kpY Z (X1.1 232 10) (X1.1 232 9)).1 1) := PS_congr (fun k _ => congrFun (ko 13 (by omega)) k) (fun k q1 q2 => (nk k (by omega)).trans (yk k (by omega))) hS
  obtain ⟨w0, w1, w2, w3, w4, w5⟩ := kx_r (M := M2)
  obtain ⟨v0, v1, v2, v3, v4, v5⟩ := kp_r (Z := Z) (a := X1.1 232 10) (b := X1.1 232 9)
  have z0 : ∀ j, Z.1 0 j = Y1.1 0 j := fun j => congrFun ((z2 0 (by decide)).trans (yo 0 (by decide))) j
  obtain ⟨nr', fR⟩ := PR_next (C' := (kpX M2).1 14 1) (R' := fun k => (kpX M2).1 (16 + k)) (P' := (kpY Z (X1.1 232 10) (X1.1 232 9)).1 1) hR (kx_14.trans (by rw [xo 14 (by decide) (by decide)])) (fun j hj => by
      show _ = (kpX M2).1 16 j
      have hj' : j = 0 ∨ j = 1 ∨ j = 2 ∨ j = 3 ∨ j = 4 ∨ j = 5 := by omega
      rcases hj' with rfl | rfl | rfl | rfl | rfl | rfl
      · rw [w0, x232]; exact v0
      · rw [w1, x232]; exact v1
      · rw [w2, x232]; exact v2.trans ((z0 16).trans r16)
      · rw [w3, x232]; exact v3.trans ((z0 17).trans r17)
      · rw [w4, x232]; exact v4.trans ((z0 18).trans r18)
      · rw [w5, x232]; exact v5.trans ((z0 15).trans r5.symm)) (fun k hk j _ => by
      show (kpX M2).1 (16 + (k + 1)) j = X.1 (16 + k) j
      rw [kx_n hk, xo _ (by omega) (by omega)]) (fun j hj => by
      rw [kp_k (Or.inr (by omega)), z1, if_pos (by omega), show 93 + j - 6 = 87 + j by omega]
      exact yk _ (by omega)) (by rw [kp_86, z1, if_neg (by omega), yk 86 (by omega)]) (by
      show (kpX M2).1 16 0 = _ ∨ _ ≤ (kpX M2).1 16 0 ∧ (kpX M2).1 16 0 ≤ _
      rw [w0, x232]
      rcases hm with ⟨-, -, -, q2, -⟩ | ⟨-, -, -, -, -, q2, -⟩
      · exact Or.inl q2
      · exact Or.inr q2)
  have fsw : (kpY Z (X1.1 232 10) (X1.1 232 9)).1 1 83 = (kpX M2).1 0 4 ∧ ((kpX M2).1 0 4 = 0 ∨ (kpX M2).1 0 4 = 1) := by
    rw [nk 83 (by decide), yk 83 (by decide), ko 0 (by omega)]
    exact hsw
  have k232 : (kpX M2).1 232 = X1.1 232 := (kx_o (by omega)).trans x232
  have g84 : gI (kpY Z (X1.1 232 10) (X1.1 232 9)) 1 84 = gI (kpX M2) 0 6 := by rw [gI_1, gI_1, nk 84 (by decide), yk 84 (by decide), ko 0 (by omega)]; exact hcl.1
  have g85 : gI (kpY Z (X1.1 232 10) (X1.1 232 9)) 1 85 = gI (kpX M2) 0 7 := by rw [gI_1, gI_1, nk 85 (by decide), yk 85 (by decide), ko 0 (by omega)]; exact hcl.2
  have g81 : gI (kpY Z (X1.1 232 10) (X1.1 232 9)) 1 81 = gI (kpX M2) 13 3 := by rw [gI_1, gI_1, nk 81 (by decide), yk 81 (by decide), ko 13 (by omega)]; exact hS.1.2.2.2.1
  have g82 : gI (kpY Z (X1.1 232 10) (X1.1 232 9)) 1 82 = gI (kpX M2) 13 4 := by rw [gI_1, gI_1, nk 82 (by decide), yk 82 (by decide), ko 13 (by omega)]; exact hS.1.2.2.2.2
  have gV0 : gJ (kpY Z (X1.1 232 10) (X1.1 232 9)) 2 0 = gJ (kpX M2) 0 8 := by
    show (kpY Z (X1.1 232 10) (X1.1 232 9)).2 2 0 = (kpX M2).2 0 8
    rw [nj, kj 0 (by omega), y3 2 (by decide) (by decide)]; exact hvo.1
  have gV1 : gJ (kpY Z (X1.1 232 10) (X1.1 232 9)) 2 1 = gJ (kpX M2) 0 9 := by
    show (kpY Z (X1.1 232 10) (X1.1 232 9)).2 2 1 = (kpX M2).2 0 9
    rw [nj, kj 0 (by omega), y3 2 (by decide) (by decide)]; exact hvo.2
  have hr0 : X1.1 232 10 = -2000000005 ∨ -1000000 ≤ X1.1 232 10 ∧ X1.1 232 10 ≤ 1000000 := by
    rcases hm with ⟨-, -, -, q2, -⟩ | ⟨-, -, -, -, -, q2, -⟩
    · exact Or.inl q2
    · exact Or.inr q2
  -- what is left alone
  have rest : ∀ Xf Yf : Mm, (∀ k, k ≠ 0 → Xf.1 k = (kpX M2).1 k) → (∀ k, k ≠ 0 → Xf.2 k = (kpX M2).2 k) → (∀ a, a ≠ 1 → Yf.1 a = (kpY Z (X1.1 232 10) (X1.1 232 9)).1 a) → (∀ a, a ≠ 2 → Yf.2 a = (kpY Z (X1.1 232 10) (X1.1 232 9)).2 a) → Rest Xf Yf ∧ CF X Y Xf Yf (X1.1 232 10) := fun Xf Yf a1 a2 a3 a4 =>
    ⟨Rest_keep (fun k q1 q2 => ⟨(a1 k (by omega)).trans ((kx_o (by omega)).trans (xo k (by omega) (by omega))), (a2 k (by omega)).trans (kj k (by omega))⟩) ⟨(congrFun (a3 0 (by decide)) 4).trans ((congrFun (no 0 (by decide)) 4).trans (y2 4 (by decide))), (congrFun (a3 0 (by decide)) 9).trans ((congrFun (no 0 (by decide)) 9).trans (y2 9 (by decide)))⟩ (fun a q => (a3 a (by omega)).trans ((no a (by omega)).trans (y1 a (by omega)))) (fun a q => (a4 a (by omega)).trans ((congrFun nj a).trans (y3 a (by omega) (by omega)))) h.rest, hr0, fun k q1 q2 => (a1 k (by omega)).trans ((kx_o (by omega)).trans (xo k (by omega) (by omega))), fun a q => (a3 a (by omega)).trans ((no a (by omega)).trans (y1 a (by omega))), fun j q => (congrFun (a3 0 (by decide)) j).trans ((congrFun (no 0 (by decide)) j).trans (y2 j q))⟩
  generalize kpY Z (X1.1 232 10) (X1.1 232 9) = N3 at *
  generalize kpX M2 = K at *
  have eX : clX X = ob1 (if gI K 232 6 = 0 then some (wI (wI K 0 6 (gI K 0 6 + 1)) 0 7 (gI K 0 7 + 1)) else f_X8_countVolume (X1.1 232 10) (wI K 0 6 (gI K 0 6 + 1))) fun M_2 => some (gI M_2 232 10, M_2) := by
    unfold clX
    rw [e1, ob1_s]
    unfold f_X2_settle
    rw [l1, ob1_s, c1, ob1_s, ob1_as (x := f_X6_startLatest M2) (f := f_X2_fillIn), xk, ob1_s, lt1_s, show gI (wI K 0 6 (gI K 0 6 + 1)) 232 6 = gI K 232 6 from gI_o (by decide), show gI (wI K 0 6 (gI K 0 6 + 1)) 232 10 = X1.1 232 10 from (gI_o (by decide)).trans (congrFun k232 10)]
    by_cases c : gI K 232 6 = 0
    · rw [if_pos c, if_pos c, lt1_s, gI_k (by decide)]
    · rw [if_neg c, if_neg c]
      cases f_X8_countVolume (X1.1 232 10) (wI K 0 6 (gI K 0 6 + 1)) <;> rfl
  unfold f_X11_closes
  rw [eX, show gI Y 1 79 = gI X 13 1 from k1, e2, ob2_s, hv, l2, ob1_s, d1, ob1_s, e3, ob1_s, lt1_s, ob1_if, lt1_s, gI_k (show (85 : Nat) ≠ 84 by decide)]
  have k6 : gI K 232 6 = X1.1 232 6 := congrFun k232 6
  rcases hm with ⟨a1, a2, -, a4, -⟩ | ⟨a1, a2, -, -, -, -, -⟩
  · rw [if_pos (k6.trans a1), if_pos a2, ob1_s, if_pos a2, ob1_s]
    refine ⟨X1.1 232 10, _, _, pair_eq ((gI_o (by decide)).trans ((gI_o (by decide)).trans (congrFun k232 10))), rfl, ?_⟩
    refine RelC.of (close_fin fA fF fS fR fsw (fun k hk => (wI_o hk).trans (wI_o hk)) (fun j j1 j2 => (wI_k j2).trans (wI_k j1)) (fun k q1 q2 => (wI_k q2).trans (wI_k q1)) ⟨?_, ?_⟩ ⟨gV0, gV1⟩) (rest _ _ (fun k hk => (wI_o hk).trans (wI_o hk)) (fun k hk => rfl) (fun a ha => (wI_o ha).trans (wI_o ha)) (fun a ha => rfl))
    · rw [wI_k (by decide), wI_e, wI_k (by decide), wI_e, g84]
    · rw [wI_e, wI_e, g85]
  · have n0 : ¬ hs = 0 := by rw [a2]; decide
    rw [if_neg (fun q => a1 (k6.symm.trans q)), if_neg n0, if_neg n0]
    unfold f_X8_countVolume
    rw [lt1_s, lt1_s, gI_k (show (81 : Nat) ≠ 85 by decide), gI_k (show (81 : Nat) ≠ 84 by decide), gI_k (show (82 : Nat) ≠ 85 by decide), gI_k (show (82 : Nat) ≠ 84 by decide), g81, g82, gI_o (show (13 : Nat) ≠ 0 by decide), gI_o (show (13 : Nat) ≠ 0 by decide)]
    generalize Int32.toInt64 (X1.1 232 10) * Int32.toInt64 (gI K 13 3) * Int32.toInt64 (gI K 13 4) / 1000 = t
    rw [lt1_s (a := t), ob1_if]
    have vW : ∀ (W : Mm) (p q : Int64), (wJ (wJ W 2 0 p) 2 1 q).2 2 0 = p ∧ (wJ (wJ W 2 0 p) 2 1 q).2 2 1 = q := fun W p q => by
      constructor
      · show (if 2 = 2 ∧ 0 = 1 then q else if 2 = 2 ∧ 0 = 0 then p else W.2 2 0) = p
        rw [if_neg (by decide), if_pos ⟨rfl, rfl⟩]
      · show (if 2 = 2 ∧ 1 = 1 then q else (wJ W 2 0 p).2 2 1) = q
        rw [if_pos ⟨rfl, rfl⟩]
    have vX : ∀ (W : Mm) (k j : Nat) (p : Int64), (wJ W 0 k p).2 0 j = if j = k then p else W.2 0 j := fun W k j p => by
      show (if 0 = 0 ∧ j = k then p else W.2 0 j) = _
      by_cases e : j = k
      · rw [if_pos ⟨rfl, e⟩, if_pos e]
      · rw [if_neg (fun z => e z.2), if_neg e]
    have z8 : ∀ x : Int64, x + 0 = x := fun x => Int64.add_zero x
    by_cases c : t ≤ 0
    · rw [if_pos c, if_pos c]
      simp only [lt1_s, ob1_s, ob1_if]
      refine ⟨X1.1 232 10, _, _, pair_eq (gI_wJ.trans ((gI_o (by decide)).trans (congrFun k232 10))), rfl, ?_⟩
      refine RelC.of (close_fin fA fF fS fR fsw (fun k hk => wI_o hk) (fun j j1 j2 => wI_k j1) (fun k q1 q2 => (wI_k q2).trans (wI_k q1)) ⟨?_, ?_⟩ ⟨?_, ?_⟩) (rest _ _ (fun k hk => wI_o hk) (fun k hk => wJ_o hk) (fun a ha => (wI_o ha).trans (wI_o ha)) (fun a ha => (wJ_o ha).trans (wJ_o ha)))
      · rw [wJ_1, wJ_1, wJ_1, wI_k (by decide), wI_e, wI_e, g84]
      · rw [wJ_1, wJ_1, wJ_1, wI_e, wI_k (by decide), g85, Int32.add_zero]; rfl
      · rw [(vW _ _ _).1, vX, if_neg (by decide), z8]
        exact gV0
      · rw [(vW _ _ _).2, vX, if_pos rfl]
        show gJ N3 2 1 + _ = gJ K 0 9 - t
        rw [gV1]
        by_cases d : (0 : Int64) ≤ t
        · rw [if_pos d, z8]
          have t0 : t = 0 := by
            rw [j_le] at c d
            rw [j_eq]
            omega
          rw [t0, Int64.sub_zero]
        · rw [if_neg d, Int64.sub_eq_add_neg]
    · rw [if_neg c, if_neg c]
      simp only [lt1_s, ob1_s, ob1_if]
      refine ⟨X1.1 232 10, _, _, pair_eq (gI_wJ.trans ((gI_o (by decide)).trans (congrFun k232 10))), rfl, ?_⟩
      refine RelC.of (close_fin fA fF fS fR fsw (fun k hk => wI_o hk) (fun j j1 j2 => wI_k j1) (fun k q1 q2 => (wI_k q2).trans (wI_k q1)) ⟨?_, ?_⟩ ⟨?_, ?_⟩) (rest _ _ (fun k hk => wI_o hk) (fun k hk => wJ_o hk) (fun a ha => (wI_o ha).trans (wI_o ha)) (fun a ha => (wJ_o ha).trans (wJ_o ha)))
      · rw [wJ_1, wJ_1, wJ_1, wI_k (by decide), wI_e, wI_e, g84]
      · rw [wJ_1, wJ_1, wJ_1, wI_e, wI_k (by decide), g85, Int32.add_zero]; rfl
      · rw [(vW _ _ _).1, vX, if_pos rfl]
        show gJ N3 2 0 + t = gJ K 0 8 + t
        rw [gV0]
      · rw [(vW _ _ _).2, vX, if_neg (show ¬ (9 : Nat) = 8 by decide)]
        show gJ N3 2 1 + (if (0 : Int64) ≤ t then 0 else -t) = gJ K 0 9
        have d : (0 : Int64) ≤ t := by
          rw [j_le] at c ⊢
          omega
        rw [if_pos d, z8, gV1]

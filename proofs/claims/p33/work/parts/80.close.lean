/-! CLOSING, 6: a whole round -/
theorem ob1_as {α β γ : Type} {x : Option α} {f : α → Option β} {g : β → Option γ} : ob1 x (fun a => ob1 (f a) g) = ob1 (ob1 x f) g := by
  cases x <;> rfl
theorem kp_o {Z : Mm} {a b : Int32} {k : Nat} (h : k ≠ 1) : (kpY Z a b).1 k = Z.1 k := by unfold kpY; rw [wI_o h, wI_o h, wI_o h, wI_o h, wI_o h, wI_o h, wI_o h]
theorem kp_k {Z : Mm} {a b : Int32} {k : Nat} (h : k < 86 ∨ 93 ≤ k) : (kpY Z a b).1 1 k = Z.1 1 k := by unfold kpY; rw [wI_k (by omega), wI_k (by omega), wI_k (by omega), wI_k (by omega), wI_k (by omega), wI_k (by omega), wI_k (by omega)]
theorem kp_86 {Z : Mm} {a b : Int32} : (kpY Z a b).1 1 86 = Z.1 1 86 + if (12 : Int32) ≤ Z.1 1 86 then 0 else 1 := wI_e
theorem kp_r {Z : Mm} {a b : Int32} : (kpY Z a b).1 1 87 = a ∧ (kpY Z a b).1 1 88 = b ∧ (kpY Z a b).1 1 89 = Z.1 0 16 ∧ (kpY Z a b).1 1 90 = Z.1 0 17 ∧ (kpY Z a b).1 1 91 = Z.1 0 18 ∧ (kpY Z a b).1 1 92 = Z.1 0 15 := by
  unfold kpY
  simp only [wI_1, gI_1, true_and, Nat.reduceEqDiff, if_true, if_false, and_self]
def kpX (M : Mm) : Mm := wI (wI (wI (wI (wI (wI (wI (shR M) 14 1 (jmin (gI M 14 1 + 1) 12)) 16 0 (gI M 232 10)) 16 1 (gI M 232 9)) 16 2 (gI M 232 6)) 16 3 (gI M 232 7)) 16 4 (gI M 232 8)) 16 5 (gI M 232 5)
theorem kx_o {M : Mm} {k : Nat} (h : k < 14 ∨ k = 15 ∨ 28 ≤ k) : (kpX M).1 k = M.1 k := by
  unfold kpX
  rw [wI_o (by omega), wI_o (by omega), wI_o (by omega), wI_o (by omega), wI_o (by omega), wI_o (by omega), wI_o (by omega)]
  show M.1 (piR k) = M.1 k
  rw [show piR k = k by unfold piR; rw [if_neg (by omega), if_neg (by omega)]]
theorem kx_n {M : Mm} {k : Nat} (h : k < 11) : (kpX M).1 (16 + (k + 1)) = M.1 (16 + k) := by
  unfold kpX
  rw [wI_o (by omega), wI_o (by omega), wI_o (by omega), wI_o (by omega), wI_o (by omega), wI_o (by omega), wI_o (by omega)]
  show M.1 (piR (16 + (k + 1))) = M.1 (16 + k)
  rw [show piR (16 + (k + 1)) = 16 + k by unfold piR; rw [if_neg (by omega), if_pos (by omega)]; omega]
theorem kx_14 {M : Mm} : (kpX M).1 14 1 = jmin (M.1 14 1 + 1) 12 := by
  unfold kpX
  simp only [wI_1, gI_1, true_and, false_and, and_false, Nat.reduceEqDiff, if_true, if_false, and_self]
theorem kx_r {M : Mm} : (kpX M).1 16 0 = M.1 232 10 ∧ (kpX M).1 16 1 = M.1 232 9 ∧ (kpX M).1 16 2 = M.1 232 6 ∧ (kpX M).1 16 3 = M.1 232 7 ∧ (kpX M).1 16 4 = M.1 232 8 ∧ (kpX M).1 16 5 = M.1 232 5 := by
  unfold kpX
  simp only [wI_1, gI_1, true_and, Nat.reduceEqDiff, if_true, if_false, and_self]
theorem kx_2 {M : Mm} {k : Nat} (h : k < 16 ∨ 28 ≤ k) : (kpX M).2 k = M.2 k := by
  show M.2 (piR k) = M.2 k
  rw [show piR k = k by unfold piR; rw [if_neg (by omega), if_neg (by omega)]]
theorem close_fin {K N Xf Yf : Mm} {n nf nr : Nat} (hA : PA n K.1 (N.1 1)) (hF : PF nf (K.1 10 2) (K.1 11) (K.1 12) (N.1 1)) (hS : PS (K.1 13) (N.1 1)) (hR : PR nr (K.1 14 1) (fun k => K.1 (16 + k)) (N.1 1)) (hsw : N.1 1 83 = K.1 0 4 ∧ (K.1 0 4 = 0 ∨ K.1 0 4 = 1))
    (dx : ∀ k, k ≠ 0 → Xf.1 k = K.1 k) (dx0 : ∀ j, j ≠ 6 → j ≠ 7 → Xf.1 0 j = K.1 0 j) (dy : ∀ k, k ≠ 84 → k ≠ 85 → Yf.1 1 k = N.1 1 k) (hc : Yf.1 1 84 = Xf.1 0 6 ∧ Yf.1 1 85 = Xf.1 0 7) (hV : Yf.2 2 0 = Xf.2 0 8 ∧ Yf.2 2 1 = Xf.2 0 9) : PG Xf.1 (Xf.2 0) (Yf.1 1) (Yf.2 2) := by
  refine ⟨⟨n, PA_congr (dx0 1 (by decide) (by decide)) (fun i hi => ⟨fun j _ => congrFun (dx _ (by omega)) j, fun j _ => congrFun (dx _ (by omega)) j⟩) (fun k hk => dy k (by omega) (by omega)) hA⟩, ⟨nf, PF_congr (congrFun (dx 10 (by decide)) 2) (fun k hk => ⟨congrFun (dx 11 (by decide)) k, congrFun (dx 12 (by decide)) k⟩) (fun k k1 k2 => dy k (by omega) (by omega)) hF⟩, PS_congr (fun k hk => congrFun (dx 13 (by decide)) k) (fun k k1 k2 => dy k (by omega) (by omega)) hS, ⟨nr, PR_congr (congrFun (dx 14 (by decide)) 1) (fun k hk j hj => congrFun (dx _ (by omega)) j) (fun k k1 k2 => dy k (by omega) (by omega)) hR⟩, ?_, hc, hV⟩
  rw [dy 83 (by decide) (by decide), dx0 4 (by decide) (by decide)]
  exact hsw

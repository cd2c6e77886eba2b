/-! SMALL STEPS of both sides, by the place of a path or of a field -/
theorem y_of {i j : Nat} (hi : i < 4) (hj : j < 16) {Y : Mm} : f_X11_of (nI i) (nI j) Y = some (Y.1 1 (16 * i + j)) := by
  unfold f_X11_of
  rw [show (16 : Int32) * nI i + nI j = nI (16 * i + j) from (congrArg (· + nI j) (nI_mul 16 i)).trans (nI_add _ _), chk_p (inb_n (by omega) (by decide)), ix_n (by omega)]
  rfl
theorem y_lay {i j : Nat} (hi : i < 4) (hj : j < 16) {Y : Mm} {v : Int32} : f_X11_lay (nI i) (nI j) v Y = some (wI Y 1 (16 * i + j) v) := by
  unfold f_X11_lay
  rw [show (16 : Int32) * nI i + nI j = nI (16 * i + j) from (congrArg (· + nI j) (nI_mul 16 i)).trans (nI_add _ _), chk_p (inb_n (by omega) (by decide)), ix_n (by omega)]
  rfl
theorem yof0 {i : Nat} (hi : i < 4) {Y : Mm} : f_X11_of (nI i) (0 : Int32) Y = some (Y.1 1 (16 * i + 0)) := y_of (j := 0) hi (by decide)
theorem ylay0 {i : Nat} (hi : i < 4) {Y : Mm} {v : Int32} : f_X11_lay (nI i) (0 : Int32) v Y = some (wI Y 1 (16 * i + 0) v) := y_lay (j := 0) hi (by decide)
theorem yof1 {i : Nat} (hi : i < 4) {Y : Mm} : f_X11_of (nI i) (1 : Int32) Y = some (Y.1 1 (16 * i + 1)) := y_of (j := 1) hi (by decide)
theorem ylay1 {i : Nat} (hi : i < 4) {Y : Mm} {v : Int32} : f_X11_lay (nI i) (1 : Int32) v Y = some (wI Y 1 (16 * i + 1) v) := y_lay (j := 1) hi (by decide)
theorem yof2 {i : Nat} (hi : i < 4) {Y : Mm} : f_X11_of (nI i) (2 : Int32) Y = some (Y.1 1 (16 * i + 2)) := y_of (j := 2) hi (by decide)
theorem ylay2 {i : Nat} (hi : i < 4) {Y : Mm} {v : Int32} : f_X11_lay (nI i) (2 : Int32) v Y = some (wI Y 1 (16 * i + 2) v) := y_lay (j := 2) hi (by decide)
theorem yof3 {i : Nat} (hi : i < 4) {Y : Mm} : f_X11_of (nI i) (3 : Int32) Y = some (Y.1 1 (16 * i + 3)) := y_of (j := 3) hi (by decide)
theorem ylay3 {i : Nat} (hi : i < 4) {Y : Mm} {v : Int32} : f_X11_lay (nI i) (3 : Int32) v Y = some (wI Y 1 (16 * i + 3) v) := y_lay (j := 3) hi (by decide)
theorem yof4 {i : Nat} (hi : i < 4) {Y : Mm} : f_X11_of (nI i) (4 : Int32) Y = some (Y.1 1 (16 * i + 4)) := y_of (j := 4) hi (by decide)
theorem ylay4 {i : Nat} (hi : i < 4) {Y : Mm} {v : Int32} : f_X11_lay (nI i) (4 : Int32) v Y = some (wI Y 1 (16 * i + 4) v) := y_lay (j := 4) hi (by decide)
theorem yof5 {i : Nat} (hi : i < 4) {Y : Mm} : f_X11_of (nI i) (5 : Int32) Y = some (Y.1 1 (16 * i + 5)) := y_of (j := 5) hi (by decide)
theorem ylay5 {i : Nat} (hi : i < 4) {Y : Mm} {v : Int32} : f_X11_lay (nI i) (5 : Int32) v Y = some (wI Y 1 (16 * i + 5) v) := y_lay (j := 5) hi (by decide)
theorem yof6 {i : Nat} (hi : i < 4) {Y : Mm} : f_X11_of (nI i) (6 : Int32) Y = some (Y.1 1 (16 * i + 6)) := y_of (j := 6) hi (by decide)
theorem ylay6 {i : Nat} (hi : i < 4) {Y : Mm} {v : Int32} : f_X11_lay (nI i) (6 : Int32) v Y = some (wI Y 1 (16 * i + 6) v) := y_lay (j := 6) hi (by decide)
theorem yof7 {i : Nat} (hi : i < 4) {Y : Mm} : f_X11_of (nI i) (7 : Int32) Y = some (Y.1 1 (16 * i + 7)) := y_of (j := 7) hi (by decide)
theorem ylay7 {i : Nat} (hi : i < 4) {Y : Mm} {v : Int32} : f_X11_lay (nI i) (7 : Int32) v Y = some (wI Y 1 (16 * i + 7) v) := y_lay (j := 7) hi (by decide)
theorem yof8 {i : Nat} (hi : i < 4) {Y : Mm} : f_X11_of (nI i) (8 : Int32) Y = some (Y.1 1 (16 * i + 8)) := y_of (j := 8) hi (by decide)
theorem ylay8 {i : Nat} (hi : i < 4) {Y : Mm} {v : Int32} : f_X11_lay (nI i) (8 : Int32) v Y = some (wI Y 1 (16 * i + 8) v) := y_lay (j := 8) hi (by decide)
theorem yof9 {i : Nat} (hi : i < 4) {Y : Mm} : f_X11_of (nI i) (9 : Int32) Y = some (Y.1 1 (16 * i + 9)) := y_of (j := 9) hi (by decide)
theorem ylay9 {i : Nat} (hi : i < 4) {Y : Mm} {v : Int32} : f_X11_lay (nI i) (9 : Int32) v Y = some (wI Y 1 (16 * i + 9) v) := y_lay (j := 9) hi (by decide)
theorem yof10 {i : Nat} (hi : i < 4) {Y : Mm} : f_X11_of (nI i) (10 : Int32) Y = some (Y.1 1 (16 * i + 10)) := y_of (j := 10) hi (by decide)
theorem ylay10 {i : Nat} (hi : i < 4) {Y : Mm} {v : Int32} : f_X11_lay (nI i) (10 : Int32) v Y = some (wI Y 1 (16 * i + 10) v) := y_lay (j := 10) hi (by decide)
theorem yof11 {i : Nat} (hi : i < 4) {Y : Mm} : f_X11_of (nI i) (11 : Int32) Y = some (Y.1 1 (16 * i + 11)) := y_of (j := 11) hi (by decide)
theorem ylay11 {i : Nat} (hi : i < 4) {Y : Mm} {v : Int32} : f_X11_lay (nI i) (11 : Int32) v Y = some (wI Y 1 (16 * i + 11) v) := y_lay (j := 11) hi (by decide)
theorem yof12 {i : Nat} (hi : i < 4) {Y : Mm} : f_X11_of (nI i) (12 : Int32) Y = some (Y.1 1 (16 * i + 12)) := y_of (j := 12) hi (by decide)
theorem ylay12 {i : Nat} (hi : i < 4) {Y : Mm} {v : Int32} : f_X11_lay (nI i) (12 : Int32) v Y = some (wI Y 1 (16 * i + 12) v) := y_lay (j := 12) hi (by decide)
theorem yof13 {i : Nat} (hi : i < 4) {Y : Mm} : f_X11_of (nI i) (13 : Int32) Y = some (Y.1 1 (16 * i + 13)) := y_of (j := 13) hi (by decide)
theorem ylay13 {i : Nat} (hi : i < 4) {Y : Mm} {v : Int32} : f_X11_lay (nI i) (13 : Int32) v Y = some (wI Y 1 (16 * i + 13) v) := y_lay (j := 13) hi (by decide)
theorem yof14 {i : Nat} (hi : i < 4) {Y : Mm} : f_X11_of (nI i) (14 : Int32) Y = some (Y.1 1 (16 * i + 14)) := y_of (j := 14) hi (by decide)
theorem ylay14 {i : Nat} (hi : i < 4) {Y : Mm} {v : Int32} : f_X11_lay (nI i) (14 : Int32) v Y = some (wI Y 1 (16 * i + 14) v) := y_lay (j := 14) hi (by decide)
theorem yof15 {i : Nat} (hi : i < 4) {Y : Mm} : f_X11_of (nI i) (15 : Int32) Y = some (Y.1 1 (16 * i + 15)) := y_of (j := 15) hi (by decide)
theorem ylay15 {i : Nat} (hi : i < 4) {Y : Mm} {v : Int32} : f_X11_lay (nI i) (15 : Int32) v Y = some (wI Y 1 (16 * i + 15) v) := y_lay (j := 15) hi (by decide)
theorem wI_o {M : Mm} {a k b : Nat} {v : Int32} (h : b ≠ a) : (wI M a k v).1 b = M.1 b := funext fun j => if_neg (fun q => h q.1)
theorem wI_k {M : Mm} {a k j : Nat} {v : Int32} (h : j ≠ k) : (wI M a k v).1 a j = M.1 a j := if_neg (fun q => h q.2)
theorem wI_e {M : Mm} {a k : Nat} {v : Int32} : (wI M a k v).1 a k = v := if_pos ⟨rfl, rfl⟩
theorem wJ_o {M : Mm} {a k b : Nat} {v : Int64} (h : b ≠ a) : (wJ M a k v).2 b = M.2 b := funext fun j => if_neg (fun q => h q.1)
theorem vI_0 {M : Mm} : vI M 0 = M.1 := by
  funext o j
  show M.1 (0 + o) j = _
  rw [Nat.zero_add]
theorem Rel.pg {X Y : Mm} (h : Rel X Y) : PG X.1 (X.2 0) (Y.1 1) (Y.2 2) := by
  have := h.1
  rw [vI_0] at this
  exact this
theorem Rel.of {X Y : Mm} (h : PG X.1 (X.2 0) (Y.1 1) (Y.2 2)) (h2 : Rest X Y) : Rel X Y := ⟨by rw [vI_0]; exact h, h2⟩
theorem Rel.rest {X Y : Mm} (h : Rel X Y) : Rest X Y := h.2
theorem ks_path {i : Nat} (hi : i < 4) : decide (KS true (2 + 2 * i) = 3) = true := by
  have h : ∀ i, i < 4 → decide (KS true (2 + 2 * i) = 3) = true := by decide
  exact h i hi
theorem stb_path {i : Nat} (hi : i < 4) : stb (2 + 2 * i) = true := by
  have h : ∀ i, i < 4 → stb (2 + 2 * i) = true := by decide
  exact h i hi
theorem in_c (a b c : Int32) (X Y : Mm) : (f_X10_isWithin a b c X = some 0 ∧ f_X11_in a b c Y = some 0 ∧ ¬ (b ≤ a ∧ a ≤ c)) ∨ (f_X10_isWithin a b c X = some 1 ∧ f_X11_in a b c Y = some 1 ∧ b ≤ a ∧ a ≤ c) := by
  unfold f_X10_isWithin f_X11_in
  by_cases h1 : a < b
  · rw [if_pos h1]
    refine Or.inl ⟨rfl, rfl, fun q => ?_⟩
    have := q.1
    rw [i_lt] at h1
    rw [i_le] at this
    omega
  · rw [if_neg h1]
    by_cases h2 : c < a
    · rw [if_pos h2]
      refine Or.inl ⟨rfl, rfl, fun q => ?_⟩
      have := q.2
      rw [i_lt] at h2
      rw [i_le] at this
      omega
    · rw [if_neg h2]
      exact Or.inr ⟨rfl, rfl, i_nlt h1, i_nlt h2⟩
theorem one_0 : ¬ (1 : Int32) = 0 := by decide
theorem path_c {X Y : Mm} {n : Nat} (hn : n ≤ 4) (hx : X.1 0 1 = nI n) (hy : Y.1 1 64 = nI n) (x : Int32) :
    (∃ i, i < n ∧ x = nI i ∧ f_X8_pathAt x X = some (some (2 + 2 * i)) ∧ f_X11_isPath x Y = some 1) ∨ (f_X8_pathAt x X = some none ∧ f_X11_isPath x Y = some 0) := by
  have hx' : gI X 0 1 = nI n := hx
  have hy' : gI Y 1 64 = nI n := hy
  unfold f_X8_pathAt f_X11_isPath f_X11_in
  rw [hx', hy']
  have e : ∀ x : Int32, (nI n - 1 < x) ↔ nI n ≤ x := fun x => by
    rw [i_lt, i_le, show nI n - (1 : Int32) = nI n - nI 1 from rfl, pk_sub_toInt (by omega) (by decide), nI_toInt (by omega)]
    omega
  by_cases h0 : x < 0
  · rw [if_pos h0, if_pos h0]
    exact Or.inr ⟨rfl, rfl⟩
  · rw [if_neg h0, if_neg h0]
    by_cases h1 : nI n ≤ x
    · rw [if_pos h1, if_pos ((e x).mpr h1)]
      exact Or.inr ⟨rfl, rfl⟩
    · rw [if_neg h1, if_neg (fun q => h1 ((e x).mp q))]
      obtain ⟨i, hi, rfl⟩ := i_four hn h0 h1
      refine Or.inl ⟨i, hi, rfl, ?_, rfl⟩
      rw [if_neg (show ¬ (4 : Int32) ≤ nI i from nI_ge (b := 4) (by omega) (by decide)), chk_p (inb_n (by omega) (by decide)), show rid 50 1 (ix (nI i)) = 2 + 2 * i from (rid50 (a := 0) (i := i) (by omega)).trans (Nat.zero_add _)]
/-- a page of which the paths alone were changed -/
theorem PG_pa {I I' : Nat → Nat → Int32} {J : Nat → Int64} {P P' : Nat → Int32} {V : Nat → Int64} (h : PG I J P V) (hI : ∀ j, j ≠ 1 → I' 0 j = I 0 j) (hI2 : ∀ o, 10 ≤ o → o < 28 → I' o = I o) (hP : ∀ k, 65 ≤ k → k < 159 → P' k = P k) (hA : ∃ n, PA n I' P') : PG I' J P' V := by
  obtain ⟨-, ⟨m, hF⟩, hS, ⟨r, hR⟩, hsw, hcl, hv⟩ := h
  refine ⟨hA, ⟨m, PF_congr (congrFun (hI2 10 (by decide) (by decide)) 2) (fun k hk => ⟨congrFun (hI2 11 (by decide) (by decide)) k, congrFun (hI2 12 (by decide) (by decide)) k⟩) (fun k h1 h2 => hP k h1 (by omega)) hF⟩, PS_congr (fun k hk => congrFun (hI2 13 (by decide) (by decide)) k) (fun k h1 h2 => hP k (by omega) (by omega)) hS, ⟨r, PR_congr (congrFun (hI2 14 (by decide) (by decide)) 1) (fun k hk j hj => congrFun (hI2 _ (by omega) (by omega)) j) (fun k h1 h2 => hP k (by omega) h2) hR⟩, ?_, ?_, hv⟩
  · rw [hI 4 (by decide), hP 83 (by decide) (by decide)]
    exact hsw
  · rw [hI 6 (by decide), hI 7 (by decide), hP 84 (by decide) (by decide), hP 85 (by decide) (by decide)]
    exact hcl
/-- one path changed -/
theorem PA_set {n : Nat} {I I' : Nat → Nat → Int32} {P P' : Nat → Int32} {i : Nat} (h : PA n I P) (h0 : I' 0 1 = I 0 1) (h64 : P' 64 = P 64) (hI : ∀ q, q < 4 → q ≠ i → I' (2 + 2 * q) = I (2 + 2 * q) ∧ I' (3 + 2 * q) = I (3 + 2 * q)) (hP : ∀ q, q < 4 → q ≠ i → ∀ k, k < 16 → P' (16 * q + k) = P (16 * q + k)) (hi : i < n) (hL : PL (I' (2 + 2 * i)) (I' (3 + 2 * i)) (fun k => P' (16 * i + k))) : PA n I' P' := by
  obtain ⟨h1, h2, h3, h4, h5⟩ := h
  refine ⟨h1, h0.trans h2, h64.trans h3, fun q hq => ?_, fun q hq hq4 => ?_⟩
  · by_cases e : q = i
    · subst e; exact hL
    · refine PL_congr (fun j _ => congrFun (hI q (by omega) e).1 j) (fun j _ => congrFun (hI q (by omega) e).2 j) (fun k hk => hP q (by omega) e k hk) (h4 q hq)
  · exact PN_congr (fun j _ => congrFun (hI q hq4 (by omega)).1 j) (fun j _ => congrFun (hI q hq4 (by omega)).2 j) (h5 q hq hq4)

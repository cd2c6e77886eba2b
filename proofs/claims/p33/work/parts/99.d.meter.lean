/-! CONSTRUCTORS, 5: a new meter, a new model -/
def ic_MX : Mm := (fun k j => if k < 224 then ic_I0 (k % 28) j else 0, fun _ _ => 0)
def ic_MY : Mm := (fun k => match k with
  | 1 => upd (upd (upd (upd (upd (fun _ => 0) 78 40) 79 2) 80 60) 81 10000) 82 100
  | _ => fun _ => 0, fun _ _ => 0)
theorem ic_flat {cA : Nat → ClassId} {d : Nat → Nat} {o : Nat} (ho : o < 28) : ∀ (bl : List (Nat → Nat)) (i : Nat), i < bl.length → (bl.flatMap (ic_B cA))[28 * i + o]? = (ic_B cA (bl.getD i d))[o]? := by
  intro bl
  induction bl with
  | nil => intro i hi; cases hi
  | cons x t ih =>
    intro i hi
    rw [List.flatMap_cons]
    match i, hi with
    | 0, _ => rw [List.getElem?_append_left (by rw [ic_B_len]; omega), show 28 * 0 + o = o by omega]; rfl
    | i + 1, hi =>
      rw [List.getElem?_append_right (by rw [ic_B_len]; omega), ic_B_len, show 28 * (i + 1) + o - 28 = 28 * i + o by omega, ih i (Nat.lt_of_succ_lt_succ hi)]
      rfl
theorem ic_tgt : ∀ o, o < 28 → (∀ x ∈ tgt (kdS o) o, x < 28) ∧ ∀ i, i < 8 → tgt (kdS o) (28 * i + o) = (tgt (kdS o) o).map (fun x => 28 * i + x) := by decide +kernel
theorem ic_meter {D : va_G} {cA : Nat → ClassId} {A : Nat → Prop} {H0 H : Heap} {locs : List Loc} {a h qa sl bo rd tx bt jd v0 v1 v2 v3 v4 : Nat} {b0 b1 b2 : Nat → Nat} {zs : List (Nat → Nat)} (h5 : zs.length = 5)
    (hW : ic_W D ([(a, .inr (10, [.ref (b0 0), .ref h, .ref sl, .ref bo, .ref rd, .ref tx, .ref jd])), (h, .inr (1, [.ref qa, .int 0])), (qa, .inl (cA 5, 5, .inr (.inr (.inr (.inr (ic_rf (fun z : Nat → Nat => z 0) zs)))))), (sl, .inl (cA 5, 2, .inr (.inr (.inr (.inr (va_up (va_up (fun _ => none) (ix (0 : Int32)) (some (b1 0))) (ix (1 : Int32)) (some (b2 0)))))))), (bo, .inl (cA 2, 2, .inl (fun _ => 0))), (rd, .inr (0, [.ref tx, .int 0, .int 0, .int 0, .int 0, .int 0, .int 0, .int 0])), (tx, .inr (9, [.ref bt, .int 0])), (bt, .inl (cA 0, 100, .inl (fun _ => 0))), (jd, .inr (2, [.ref v0, .ref v1, .ref v2, .ref v3, .ref v4, .int 0, .int 0, .int 0, .int 0, .int 0, .int 0])), (v0, .inl (cA 2, 4, .inl (fun _ => 0))), (v1, .inl (cA 0, 4, .inl (fun _ => 0))), (v2, .inl (cA 0, 4, .inl (fun _ => 0))), (v3, .inl (cA 0, 4, .inl (fun _ => 0))), (v4, .inl (cA 0, 4, .inl (fun _ => 0)))] ++ (((ic_B cA b0 ++ zs.flatMap (ic_B cA)) ++ ic_B cA b1) ++ ic_B cA b2)) A H0 H locs) : ∃ ad : Nat → Nat, ad 224 = a ∧ ic_W D (XW true cA ad ic_MX) A H0 H locs := by
  obtain ⟨z0, zs0, rfl, k0⟩ := ic_len h5
  obtain ⟨z1, zs1, rfl, k1⟩ := ic_len k0
  obtain ⟨z2, zs2, rfl, k2⟩ := ic_len k1
  obtain ⟨z3, zs3, rfl, k3⟩ := ic_len k2
  obtain ⟨z4, zs4, rfl, k4⟩ := ic_len k3
  obtain rfl := ic_len0 k4
  rw [show (((ic_B cA b0 ++ [z0, z1, z2, z3, z4].flatMap (ic_B cA)) ++ ic_B cA b1) ++ ic_B cA b2) = [b0, z0, z1, z2, z3, z4, b1, b2].flatMap (ic_B cA) from by simp only [List.flatMap_cons, List.flatMap_nil, List.append_nil, List.append_assoc]] at hW
  obtain ⟨bl, ebl⟩ : ∃ bl : List (Nat → Nat), bl = [b0, z0, z1, z2, z3, z4, b1, b2] := ⟨_, rfl⟩
  obtain ⟨ad, ead⟩ : ∃ ad : Nat → Nat, ad = fun k => if k < 224 then ([b0, z0, z1, z2, z3, z4, b1, b2].getD (k / 28) (fun _ => 0)) (k % 28) else [a, h, qa, sl, bo, rd, tx, bt, jd, v0, v1, v2, v3, v4].getD (k - 224) 0 := ⟨_, rfl⟩
  have e1 : ic_rf (fun z : Nat → Nat => z 0) [z0, z1, z2, z3, z4] = fun j => if j < alen 52 then some (ad (rid 52 226 j)) else none := ic_rfe _ _ 5 rfl _ (fun j hj => by
    subst ead
    match j, hj with
    | 0, _ => rfl
    | 1, _ => rfl
    | 2, _ => rfl
    | 3, _ => rfl
    | 4, _ => rfl
    | j + 5, hj => exact absurd hj (by omega))
  have e2 : (va_up (va_up (fun _ => none) (ix (0 : Int32)) (some (b1 0))) (ix (1 : Int32)) (some (b2 0)) : Nat → Option Nat) = fun j => if j < alen 53 then some (ad (rid 53 227 j)) else none := by
    subst ead
    funext j
    match j with
    | 0 => rfl
    | 1 => rfl
    | j + 2 =>
      show (if j + 2 = 1 then some (b2 0) else if j + 2 = 0 then some (b1 0) else none) = if j + 2 < 2 then _ else none
      rw [if_neg (by omega), if_neg (by omega), if_neg (by omega)]
  rw [e1, e2] at hW
  have key : ∀ k, k < 238 → (([(a, .inr (10, [.ref (b0 0), .ref h, .ref sl, .ref bo, .ref rd, .ref tx, .ref jd])), (h, .inr (1, [.ref qa, .int 0])), (qa, .inl (cA 5, 5, .inr (.inr (.inr (.inr (fun j => if j < alen 52 then some (ad (rid 52 226 j)) else none)))))), (sl, .inl (cA 5, 2, .inr (.inr (.inr (.inr (fun j => if j < alen 53 then some (ad (rid 53 227 j)) else none)))))), (bo, .inl (cA 2, 2, .inl (fun _ => 0))), (rd, .inr (0, [.ref tx, .int 0, .int 0, .int 0, .int 0, .int 0, .int 0, .int 0])), (tx, .inr (9, [.ref bt, .int 0])), (bt, .inl (cA 0, 100, .inl (fun _ => 0))), (jd, .inr (2, [.ref v0, .ref v1, .ref v2, .ref v3, .ref v4, .int 0, .int 0, .int 0, .int 0, .int 0, .int 0])), (v0, .inl (cA 2, 4, .inl (fun _ => 0))), (v1, .inl (cA 0, 4, .inl (fun _ => 0))), (v2, .inl (cA 0, 4, .inl (fun _ => 0))), (v3, .inl (cA 0, 4, .inl (fun _ => 0))), (v4, .inl (cA 0, 4, .inl (fun _ => 0)))] ++ [b0, z0, z1, z2, z3, z4, b1, b2].flatMap (ic_B cA)) : va_W)[if k < 224 then 14 + k else k - 224]? = some (ad k, cellX cA ad (KS true k) k (ic_MX.1 k) (ic_MX.2 k)) := by
    intro k hk
    by_cases c : k < 224
    · rw [if_pos c]
      obtain ⟨i, o, ho, rfl⟩ : ∃ i o, o < 28 ∧ k = 28 * i + o := ⟨k / 28, k % 28, Nat.mod_lt _ (by decide), by omega⟩
      have hi : i < 8 := by omega
      have q1 : (28 * i + o) / 28 = i := by omega
      have q2 : (28 * i + o) % 28 = o := by omega
      have adx : ∀ x, x < 28 → ad (28 * i + x) = (bl.getD i (fun _ => 0)) x := fun x hx => by
        rw [ead, ebl]
        show (if 28 * i + x < 224 then _ else _) = _
        rw [if_pos (by omega), show (28 * i + x) / 28 = i by omega, show (28 * i + x) % 28 = x by omega]
      rw [← ebl, List.getElem?_append_right (by show 14 ≤ _; omega)]
      show (bl.flatMap (ic_B cA))[14 + (28 * i + o) - 14]? = _
      rw [show 14 + (28 * i + o) - 14 = 28 * i + o by omega, ic_flat (d := fun _ => 0) ho bl i (by rw [ebl]; exact hi), ic_B_at ho, adx o ho]
      obtain ⟨t1, t2⟩ := ic_tgt o ho
      have eK : KS true (28 * i + o) = kdS o := by
        show (if 28 * i + o < 224 then kdS ((28 * i + o) % 28) else _) = _
        rw [if_pos c, q2]
      have eM : ic_MX.1 (28 * i + o) = ic_I0 o := by
        funext j
        show (if 28 * i + o < 224 then ic_I0 ((28 * i + o) % 28) j else 0) = _
        rw [if_pos c, q2]
      have eC : cellX cA ad (kdS o) (28 * i + o) (ic_I0 o) (fun _ => 0) = cellX cA (bl.getD i (fun _ => 0)) (kdS o) o (ic_I0 o) (fun _ => 0) := cellX_map (by
        rw [t2 i hi, List.map_map]
        exact List.map_congr_left (fun x hx => adx x (t1 x hx)))
      rw [eK, eM, show ic_MX.2 (28 * i + o) = fun _ => 0 from rfl, eC]
    · rw [if_neg c]
      obtain ⟨j, hj, rfl⟩ : ∃ j, j < 14 ∧ k = 224 + j := ⟨k - 224, by omega, by omega⟩
      rw [show 224 + j - 224 = j by omega]
      subst ead
      match j, hj with
      | 0, _ => rfl
      | 1, _ => rfl
      | 2, _ => rfl
      | 3, _ => rfl
      | 4, _ => rfl
      | 5, _ => rfl
      | 6, _ => rfl
      | 7, _ => rfl
      | 8, _ => rfl
      | 9, _ => rfl
      | 10, _ => rfl
      | 11, _ => rfl
      | 12, _ => rfl
      | 13, _ => rfl
      | j + 14, hj => exact absurd hj (by omega)
  have hg : ∀ (k : Nat) (q : Nat × va_E), (XW true cA ad ic_MX)[k]? = some q → (([(a, .inr (10, [.ref (b0 0), .ref h, .ref sl, .ref bo, .ref rd, .ref tx, .ref jd])), (h, .inr (1, [.ref qa, .int 0])), (qa, .inl (cA 5, 5, .inr (.inr (.inr (.inr (fun j => if j < alen 52 then some (ad (rid 52 226 j)) else none)))))), (sl, .inl (cA 5, 2, .inr (.inr (.inr (.inr (fun j => if j < alen 53 then some (ad (rid 53 227 j)) else none)))))), (bo, .inl (cA 2, 2, .inl (fun _ => 0))), (rd, .inr (0, [.ref tx, .int 0, .int 0, .int 0, .int 0, .int 0, .int 0, .int 0])), (tx, .inr (9, [.ref bt, .int 0])), (bt, .inl (cA 0, 100, .inl (fun _ => 0))), (jd, .inr (2, [.ref v0, .ref v1, .ref v2, .ref v3, .ref v4, .int 0, .int 0, .int 0, .int 0, .int 0, .int 0])), (v0, .inl (cA 2, 4, .inl (fun _ => 0))), (v1, .inl (cA 0, 4, .inl (fun _ => 0))), (v2, .inl (cA 0, 4, .inl (fun _ => 0))), (v3, .inl (cA 0, 4, .inl (fun _ => 0))), (v4, .inl (cA 0, 4, .inl (fun _ => 0)))] ++ [b0, z0, z1, z2, z3, z4, b1, b2].flatMap (ic_B cA)) : va_W)[if k < 224 then 14 + k else k - 224]? = some q := by
    intro k q hq
    obtain ⟨hk, rfl⟩ := XW_inv hq
    exact key k hk
  refine ⟨ad, by rw [ead]; rfl, hW.1.by _ hg, hW.2.1.by _ hg (fun i j hi hj e => ?_), hW.2.2⟩
  rw [XW_len] at hi hj
  have hi : i < 238 := hi
  have hj : j < 238 := hj
  split at e <;> split at e <;> omega

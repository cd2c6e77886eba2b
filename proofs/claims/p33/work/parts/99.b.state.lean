/-! CONSTRUCTORS, 3: a new state -/
theorem ic_state {D : va_G} {cA : Nat → ClassId} {A : Nat → Prop} {H0 H : Heap} {locs : List Loc} {a pa pr v f st r ra : Nat} {rs : List Nat} {zs : List (Nat × Nat)} (h12 : rs.length = 12) (h4 : zs.length = 4)
    (hW : ic_W D (([(a, .inr (8, [.ref pa, .int 0, .ref pr, .ref st, .int 0, .ref r, .int 0, .int 0, .long 0, .long 0])), (pa, .inl (cA 3, 4, .inr (.inr (.inr (.inr (ic_rf (fun z : Nat × Nat => z.1) zs)))))), (pr, .inr (4, [.ref v, .ref f, .int 0])), (v, .inl (cA 0, 6, .inl (fun _ => 0))), (f, .inl (cA 0, 6, .inl (fun _ => 0))), (st, .inl (cA 0, 5, .inl (upd (upd (upd (upd (upd (fun _ => 0) 0 40) 1 2) 2 60) 3 10000) 4 100))), (r, .inr (6, [.ref ra, .int 0])), (ra, .inl (cA 4, 12, .inr (.inr (.inr (.inr (ic_rf (fun z : Nat => z) rs))))))] ++ rs.map (fun z : Nat => ((z, .inr (5, [.int 0, .int 0, .int 0, .int 0, .int 0, .int 0])) : Nat × va_E))) ++ zs.flatMap (fun z : Nat × Nat => ([(z.1, .inr (3, [.int 0, .int 0, .int 0, .int 0, .int 0, .int 0, .int 0, .int 0, .int 0, .int 0, .int (-2000000005), .int (-2000000005), .int 0, .int 0, .int 0, .ref z.2])), (z.2, .inr (7, [.int 0, .int 0, .int 0, .int 0]))] : va_W))) A H0 H locs) : ∃ ad : Nat → Nat, ad 0 = a ∧ ic_W D (ic_B cA ad) A H0 H locs := by
  obtain ⟨r0, rs0, rfl, k0⟩ := ic_len h12
  obtain ⟨r1, rs1, rfl, k1⟩ := ic_len k0
  obtain ⟨r2, rs2, rfl, k2⟩ := ic_len k1
  obtain ⟨r3, rs3, rfl, k3⟩ := ic_len k2
  obtain ⟨r4, rs4, rfl, k4⟩ := ic_len k3
  obtain ⟨r5, rs5, rfl, k5⟩ := ic_len k4
  obtain ⟨r6, rs6, rfl, k6⟩ := ic_len k5
  obtain ⟨r7, rs7, rfl, k7⟩ := ic_len k6
  obtain ⟨r8, rs8, rfl, k8⟩ := ic_len k7
  obtain ⟨r9, rs9, rfl, k9⟩ := ic_len k8
  obtain ⟨r10, rs10, rfl, k10⟩ := ic_len k9
  obtain ⟨r11, rs11, rfl, k11⟩ := ic_len k10
  obtain rfl := ic_len0 k11
  obtain ⟨⟨p0, s0⟩, zs0, rfl, n0⟩ := ic_len h4
  obtain ⟨⟨p1, s1⟩, zs1, rfl, n1⟩ := ic_len n0
  obtain ⟨⟨p2, s2⟩, zs2, rfl, n2⟩ := ic_len n1
  obtain ⟨⟨p3, s3⟩, zs3, rfl, n3⟩ := ic_len n2
  obtain rfl := ic_len0 n3
  obtain ⟨ad, ead⟩ : ∃ ad : Nat → Nat, ad = fun o => [a, pa, p0, s0, p1, s1, p2, s2, p3, s3, pr, v, f, st, r, ra, r0, r1, r2, r3, r4, r5, r6, r7, r8, r9, r10, r11].getD o 0 := ⟨_, rfl⟩
  have e1 : ic_rf (fun z : Nat × Nat => z.1) [(p0, s0), (p1, s1), (p2, s2), (p3, s3)] = fun j => if j < alen 50 then some (ad (rid 50 1 j)) else none := ic_rfe _ _ 4 rfl _ (fun j hj => by
    subst ead
    match j, hj with
    | 0, _ => rfl
    | 1, _ => rfl
    | 2, _ => rfl
    | 3, _ => rfl
    | j + 4, hj => exact absurd hj (by omega))
  have e2 : ic_rf (fun z : Nat => z) [r0, r1, r2, r3, r4, r5, r6, r7, r8, r9, r10, r11] = fun j => if j < alen 51 then some (ad (rid 51 15 j)) else none := ic_rfe _ _ 12 rfl _ (fun j hj => by
    subst ead
    match j, hj with
    | 0, _ => rfl
    | 1, _ => rfl
    | 2, _ => rfl
    | 3, _ => rfl
    | 4, _ => rfl
    | 5, _ => rfl
    | 6, _ => rfl
    | 7, _ => rfl
    | 8, _ => rfl
    | 9, _ => rfl
    | 10, _ => rfl
    | 11, _ => rfl
    | j + 12, hj => exact absurd hj (by omega))
  rw [e1, e2] at hW
  have key : ∀ k, k < 28 → ((([(a, .inr (8, [.ref pa, .int 0, .ref pr, .ref st, .int 0, .ref r, .int 0, .int 0, .long 0, .long 0])), (pa, .inl (cA 3, 4, .inr (.inr (.inr (.inr (fun j => if j < alen 50 then some (ad (rid 50 1 j)) else none)))))), (pr, .inr (4, [.ref v, .ref f, .int 0])), (v, .inl (cA 0, 6, .inl (fun _ => 0))), (f, .inl (cA 0, 6, .inl (fun _ => 0))), (st, .inl (cA 0, 5, .inl (upd (upd (upd (upd (upd (fun _ => 0) 0 40) 1 2) 2 60) 3 10000) 4 100))), (r, .inr (6, [.ref ra, .int 0])), (ra, .inl (cA 4, 12, .inr (.inr (.inr (.inr (fun j => if j < alen 51 then some (ad (rid 51 15 j)) else none))))))] ++ [r0, r1, r2, r3, r4, r5, r6, r7, r8, r9, r10, r11].map (fun z : Nat => ((z, .inr (5, [.int 0, .int 0, .int 0, .int 0, .int 0, .int 0])) : Nat × va_E))) ++ [(p0, s0), (p1, s1), (p2, s2), (p3, s3)].flatMap (fun z : Nat × Nat => ([(z.1, .inr (3, [.int 0, .int 0, .int 0, .int 0, .int 0, .int 0, .int 0, .int 0, .int 0, .int 0, .int (-2000000005), .int (-2000000005), .int 0, .int 0, .int 0, .ref z.2])), (z.2, .inr (7, [.int 0, .int 0, .int 0, .int 0]))] : va_W))) : va_W)[if k < 2 then k else if k < 10 then k + 18 else k - 8]? = some (ad k, cellX cA ad (kdS k) k (ic_I0 k) (fun _ => 0)) := by
    intro k hk
    subst ead
    match k, hk with
    | 0, _ => rfl
    | 1, _ => rfl
    | 2, _ => rfl
    | 3, _ => rfl
    | 4, _ => rfl
    | 5, _ => rfl
    | 6, _ => rfl
    | 7, _ => rfl
    | 8, _ => rfl
    | 9, _ => rfl
    | 10, _ => rfl
    | 11, _ => rfl
    | 12, _ => rfl
    | 13, _ => rfl
    | 14, _ => rfl
    | 15, _ => rfl
    | 16, _ => rfl
    | 17, _ => rfl
    | 18, _ => rfl
    | 19, _ => rfl
    | 20, _ => rfl
    | 21, _ => rfl
    | 22, _ => rfl
    | 23, _ => rfl
    | 24, _ => rfl
    | 25, _ => rfl
    | 26, _ => rfl
    | 27, _ => rfl
    | k + 28, hk => exact absurd hk (by omega)
  have hg : ∀ (k : Nat) (q : Nat × va_E), (ic_B cA ad)[k]? = some q → ((([(a, .inr (8, [.ref pa, .int 0, .ref pr, .ref st, .int 0, .ref r, .int 0, .int 0, .long 0, .long 0])), (pa, .inl (cA 3, 4, .inr (.inr (.inr (.inr (fun j => if j < alen 50 then some (ad (rid 50 1 j)) else none)))))), (pr, .inr (4, [.ref v, .ref f, .int 0])), (v, .inl (cA 0, 6, .inl (fun _ => 0))), (f, .inl (cA 0, 6, .inl (fun _ => 0))), (st, .inl (cA 0, 5, .inl (upd (upd (upd (upd (upd (fun _ => 0) 0 40) 1 2) 2 60) 3 10000) 4 100))), (r, .inr (6, [.ref ra, .int 0])), (ra, .inl (cA 4, 12, .inr (.inr (.inr (.inr (fun j => if j < alen 51 then some (ad (rid 51 15 j)) else none))))))] ++ [r0, r1, r2, r3, r4, r5, r6, r7, r8, r9, r10, r11].map (fun z : Nat => ((z, .inr (5, [.int 0, .int 0, .int 0, .int 0, .int 0, .int 0])) : Nat × va_E))) ++ [(p0, s0), (p1, s1), (p2, s2), (p3, s3)].flatMap (fun z : Nat × Nat => ([(z.1, .inr (3, [.int 0, .int 0, .int 0, .int 0, .int 0, .int 0, .int 0, .int 0, .int 0, .int 0, .int (-2000000005), .int (-2000000005), .int 0, .int 0, .int 0, .ref z.2])), (z.2, .inr (7, [.int 0, .int 0, .int 0, .int 0]))] : va_W))) : va_W)[if k < 2 then k else if k < 10 then k + 18 else k - 8]? = some q := by
    intro k q hq
    have hk : k < 28 := by rw [← ic_B_len (cA := cA) (ad := ad)]; exact (List.getElem?_eq_some_iff.mp hq).1
    rw [ic_B_at hk] at hq
    rw [← Option.some.inj hq]
    exact key k hk
  refine ⟨ad, by rw [ead]; rfl, hW.1.by _ hg, hW.2.1.by _ hg (fun i j hi hj e => ?_), hW.2.2⟩
  rw [ic_B_len] at hi hj
  split at e <;> split at e <;> (try split at e) <;> (try split at e) <;> omega

/-! which address an id has may change: rows of references that are moved round -/
theorem map_at {l l2 : List Nat} {f g : Nat → Nat} (h : l.map f = l2.map g) {i a b : Nat} (ha : l[i]? = some a) (hb : l2[i]? = some b) : f a = g b := by
  have e := congrArg (fun z : List Nat => z[i]?) h
  simp only [List.getElem?_map, ha, hb, Option.map_some] at e
  exact Option.some.inj e
theorem cellX_map {cA : Nat → ClassId} {ad ad' : Nat → Nat} {t k k2 : Nat} {I : Nat → Int32} {J : Nat → Int64} (h : (tgt t k).map ad' = (tgt t k2).map ad) : cellX cA ad' t k I J = cellX cA ad t k2 I J := by
  by_cases h20 : t < 20
  · rw [cellX_o h20, cellX_o h20]
    have e : fieldsX ad' t k I J = fieldsX ad t k2 I J := by
      match t, h with
      | 0, h => simp [tgt] at h; simp [fieldsX, h]
      | 1, h => simp [tgt] at h; simp [fieldsX, h]
      | 2, h => simp [tgt] at h; simp [fieldsX, h]
      | 3, h => simp [tgt] at h; simp [fieldsX, h]
      | 4, h => simp [tgt] at h; simp [fieldsX, h]
      | 5, h => simp [fieldsX]
      | 6, h => simp [tgt] at h; simp [fieldsX, h]
      | 7, h => simp [fieldsX]
      | 8, h => simp [tgt] at h; simp [fieldsX, h]
      | 9, h => simp [tgt] at h; simp [fieldsX, h]
      | 10, h => simp [tgt] at h; simp [fieldsX, h]
      | 11, h => simp [tgt] at h; simp [fieldsX, h]
      | t + 12, h => rfl
    rw [e]
  · by_cases h50 : t < 50
    · unfold cellX
      rw [if_neg h20, if_neg h20]
      by_cases h1 : t < 30
      · rw [if_pos h1, if_pos h1]
      · rw [if_neg h1, if_neg h1]
        by_cases h2 : t < 40
        · rw [if_pos h2, if_pos h2]
        · rw [if_neg h2, if_neg h2, if_pos h50, if_pos h50]
    · rw [cellX_q (by omega), cellX_q (by omega)]
      congr 6
      refine congrArg Sum.inr (funext fun j => ?_)
      by_cases hj : j < alen t
      · rw [if_pos hj, if_pos hj]
        have ht : t = 50 ∨ t = 51 ∨ t = 52 ∨ t = 53 := by
          rcases Nat.lt_or_ge t 54 with q | q
          · omega
          · exfalso
            obtain ⟨u, rfl⟩ : ∃ u, t = u + 54 := ⟨t - 54, by omega⟩
            have e : alen (u + 54) = 0 := rfl
            omega
        rcases ht with rfl | rfl | rfl | rfl <;>
        · have := map_at h (i := j) (by simp only [tgt, List.getElem?_map, List.getElem?_range hj]; rfl) (by simp only [tgt, List.getElem?_map, List.getElem?_range hj]; rfl)
          rw [this]
      · rw [if_neg hj, if_neg hj]
def rcell (cA : Nat → ClassId) (x : Nat) (f : Nat → Option Nat) : va_E := .inl (cA (if KS true x = 50 then 3 else if KS true x = 51 then 4 else 5), alen (KS true x), .inr (.inr (.inr (.inr f))))
/-- the world with one row of references as f has it -/
def XS (cA : Nat → ClassId) (ad : Nat → Nat) (M : Mm) (x : Nat) (f : Nat → Option Nat) : va_W := (XW true cA ad M).set x (ad x, rcell cA x f)
def Xs (D : va_G) (cA : Nat → ClassId) (ad : Nat → Nat) (M : Mm) (x : Nat) (f : Nat → Option Nat) (A : Nat → Prop) (H0 H : Heap) (locs : List Loc) : Prop := va_P D vwCl (XS cA ad M x f) H ∧ va_D A (XS cA ad M x f) ∧ va_S A H0 H locs
theorem XS_at {cA : Nat → ClassId} {ad : Nat → Nat} {M : Mm} {x k : Nat} {f : Nat → Option Nat} (hk : k < 238) (hx : k ≠ x) : (XS cA ad M x f)[k]? = some (ad k, cellX cA ad (KS true k) k (M.1 k) (M.2 k)) := by
  unfold XS
  rw [List.getElem?_set_ne (Ne.symm hx)]
  exact XW_at (b := true) hk
theorem XS_x {cA : Nat → ClassId} {ad : Nat → Nat} {M : Mm} {x : Nat} {f : Nat → Option Nat} (hx : x < 238) : (XS cA ad M x f)[x]? = some (ad x, rcell cA x f) := by
  unfold XS
  rw [List.getElem?_set_self (by rw [XW_len]; exact hx)]
theorem XS_of {D : va_G} {cA : Nat → ClassId} {ad : Nat → Nat} {M : Mm} {x : Nat} {A : Nat → Prop} {H0 H : Heap} {locs : List Loc} (hx : x < 238) (hxt : 50 ≤ KS true x) (hW : Xw D true cA ad M A H0 H locs) : Xs D cA ad M x (fun j => if j < alen (KS true x) then some (ad (rid (KS true x) x j)) else none) A H0 H locs := by
  have e : XS cA ad M x (fun j => if j < alen (KS true x) then some (ad (rid (KS true x) x j)) else none) = XW true cA ad M := by
    unfold XS rcell
    rw [← cellX_q (cA := cA) (ad := ad) (k := x) (I := M.1 x) (J := M.2 x) hxt]
    exact XW_set rfl rfl rfl (fun _ _ => ⟨rfl, rfl⟩)
  refine ⟨?_, ?_, hW.2.2⟩
  · rw [e]; exact hW.1
  · rw [e]; exact hW.2.1
theorem relabel {D : va_G} {cA : Nat → ClassId} {ad : Nat → Nat} {M M' : Mm} {x : Nat} {f : Nat → Option Nat} {A : Nat → Prop} {H0 H : Heap} {locs : List Loc} (π : Nat → Nat) (hx : x < 238) (hxt : 50 ≤ KS true x)
    (hk : ∀ k, k < 238 → k ≠ x → π k < 238 ∧ π k ≠ x ∧ KS true (π k) = KS true k ∧ (tgt (KS true k) k).map π = tgt (KS true k) (π k))
    (hinj : ∀ i, i < 238 → ∀ j, j < 238 → π i = π j → i = j) (hpx : π x = x)
    (hf : ∀ j, f j = if j < alen (KS true x) then some (ad (π (rid (KS true x) x j))) else none)
    (hM : ∀ k, M'.1 k = M.1 (π k) ∧ M'.2 k = M.2 (π k)) (hW : Xs D cA ad M x f A H0 H locs) : Xw D true cA (fun k => ad (π k)) M' A H0 H locs := by
  obtain ⟨hP, hD, hS⟩ := hW
  have key : ∀ k, k < 238 → (XS cA ad M x f)[π k]? = some (ad (π k), cellX cA (fun k => ad (π k)) (KS true k) k (M'.1 k) (M'.2 k)) := by
    intro k hk2
    by_cases h : k = x
    · subst h
      rw [hpx, XS_x hk2, cellX_q hxt]
      unfold rcell
      have e : f = fun j => if j < alen (KS true k) then some (ad (π (rid (KS true k) k j))) else none := funext hf
      rw [e]
    · obtain ⟨h1, h2, h3, h4⟩ := hk k hk2 h
      rw [XS_at h1 h2, h3, (hM k).1, (hM k).2]
      congr 2
      refine (cellX_map ?_).symm
      rw [← h4, List.map_map]
      rfl
  refine ⟨fun k q hq => ?_, ⟨fun i j p q hi hj hpq => ?_, fun k q hq => ?_⟩, hS⟩
  · obtain ⟨hk2, rfl⟩ := XW_inv hq
    exact hP _ _ (key k hk2)
  · obtain ⟨hi2, rfl⟩ := XW_inv hi
    obtain ⟨hj2, rfl⟩ := XW_inv hj
    exact hinj i hi2 j hj2 (hD.1 _ _ _ _ (key i hi2) (key j hj2) hpq)
  · obtain ⟨hk2, rfl⟩ := XW_inv hq
    exact hD.2 _ _ (key k hk2)
section XSW
variable {p : Program} {l : Launch} {e : Env} {R : Room} {s : State} {m : MethodId} {args : Array Value} {below : List Frame} {meth : Method} {c : Code} {H : Heap} {locs : List Loc} {cells slots : Nat} {Q : State → Prop}
variable {cc : ByteArray} {pc : Nat} {ls : Array Slot} {rest : List Value} {D : va_G} {cA : Nat → ClassId} {ad : Nat → Nat} {M : Mm} {x : Nat} {f : Nat → Option Nat} {A : Nat → Prop} {H0 : Heap}
theorem xsget (hx : p.tables.exec = Jvm.exec) (hb : c.code = cc) {own C : String} {T : u_T} {N ci index : Nat} {Ts : List Cond} (hts : ∀ w ∈ Ts, w.before args s = true) (hin : ∀ w ∈ u_ws C T N, w ∈ Ts) (hown : s.vm.findClass own = some m.cls) (hK : KX D cA s) (hW : Xs D cA ad M x f A H0 H locs) {k : Nat} (hkx : k ≠ x) (hk : KS true k = ci) (h20 : ci < 20) (hc : vwCl[ci]? = some (C, T, N)) (j : Nat) (hj : j < N) (hlink : (Cond.fieldLink own index (T j).1 (T j).2.1 (T j).2.2.1).before args s = true) {v : Value} (hv : (fieldsX ad ci k (M.1 k) (M.2 k))[j]? = some v) (hdg : decode cc pc = .ok (.getfield index, 3))
    (kk : W p l e R s m args below meth c H locs cells slots Q (F0 m (pc + 3) ls (v :: rest))) : W p l e R s m args below meth c H locs cells slots Q (F0 m pc ls (.ref (ad k) :: rest)) := by
  have he := XS_at (cA := cA) (ad := ad) (M := M) (f := f) (KS_lt (b := true) (k := k) (by omega)) hkx
  rw [hk, cellX_o h20] at he
  exact va_get hx hb hts hin hown hK.1 hW.1 k he hc j hj hlink (fun _ h => h) hv hdg kk
theorem xsald (hx : p.tables.exec = Jvm.exec) (hb : c.code = cc) (hK : KX D cA s) (hW : Xs D cA ad M x f A H0 H locs) (hx2 : x < 238) {t0 : Nat} {C : String} (ht0 : (tysX cA)[t0]? = some (cA (if KS true x = 50 then 3 else if KS true x = 51 then 4 else 5), .object C)) {i : Int32} (hi : inb i (alen (KS true x)) = true) {y : Nat} (hy : f (ix i) = some y) (hdg : decode cc pc = .ok (.aaload, 1))
    (kk : W p l e R s m args below meth c H locs cells slots Q (F0 m (pc + 1) ls (.ref y :: rest))) : W p l e R s m args below meth c H locs cells slots Q (F0 m pc ls (.int i :: .ref (ad x) :: rest)) := by
  have he := XS_x (cA := cA) (ad := ad) (M := M) (f := f) hx2
  unfold rcell at he
  exact va_aldq hx hb hK.1 hW.1 x t0 he ht0 (inb_in hi) hdg (by rw [show i.toNatClampNeg = ix i from rfl, hy]; exact kk)
theorem xsast (hx : p.tables.exec = Jvm.exec) (hb : c.code = cc) (hK : KX D cA s) (hW : Xs D cA ad M x f A H0 H locs) (hx2 : x < 238) {t0 ci : Nat} {r : vw_C} (ht0 : (tysX cA)[t0]? = some (cA (if KS true x = 50 then 3 else if KS true x = 51 then 4 else 5), .object r.1)) (hc : vwCl[ci]? = some r) {y : Nat} (hyx : y ≠ x) (hy : KS true y = ci) (h20 : ci < 20) {i : Int32} (hi : inb i (alen (KS true x)) = true) (hdg : decode cc pc = .ok (.aastore, 1))
    (kk : ∀ (H1 : Heap) (locs1 : List Loc), Xs D cA ad M x (va_up f (ix i) (some (ad y))) A H0 H1 locs1 → W p l e R s m args below meth c H1 locs1 cells slots Q (F0 m (pc + 1) ls rest)) : W p l e R s m args below meth c H locs cells slots Q (F0 m pc ls (.ref (ad y) :: .int i :: .ref (ad x) :: rest)) := by
  have he := XS_x (cA := cA) (ad := ad) (M := M) (f := f) hx2
  unfold rcell at he
  have hv := XS_at (cA := cA) (ad := ad) (M := M) (f := f) (KS_lt (b := true) (k := y) (by omega)) hyx
  rw [hy, cellX_o h20] at hv
  refine va_astq hx hb hK.1 hW.1 hW.2.1 hW.2.2 x t0 y ci he ht0 hv hc (inb_in hi) hdg (fun H1 locs1 hP hD hS => kk H1 locs1 ?_)
  have e : (XS cA ad M x f).set x (ad x, .inl (cA (if KS true x = 50 then 3 else if KS true x = 51 then 4 else 5), alen (KS true x), .inr (.inr (.inr (.inr (va_up f i.toNatClampNeg (some (ad y)))))))) = XS cA ad M x (va_up f (ix i) (some (ad y))) := by
    unfold XS rcell
    rw [List.set_set]
    rfl
  rw [e] at hP hD
  exact ⟨hP, hD, hS⟩
end XSW

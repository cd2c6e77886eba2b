/-! CONSTRUCTORS, 1: worlds as lists; what a method that makes cells may change -/
def ic_A (a sz : Nat) : Nat → Prop := fun q => q = a ∨ sz ≤ q
def ic_W (D : va_G) (ws : va_W) (A : Nat → Prop) (H0 H : Heap) (locs : List Loc) : Prop := va_P D vwCl ws H ∧ va_D A ws ∧ va_S A H0 H locs
def ic_K (D : va_G) (cA : Nat → ClassId) (U : State) : Prop := KX D cA U ∧ va_AO "TransitMeter$Path" U ∧ va_AO "TransitMeter$Round" U ∧ va_AO "TransitMeter$State" U
theorem ic_K.warm {D : va_G} {cA : Nat → ClassId} {s U : State} (hW : s.WarmedH U.vm) (h : ic_K D cA s) : ic_K D cA U := ⟨h.1.warm hW, h.2.1.moved hW.alike, h.2.2.1.moved hW.alike, h.2.2.2.moved hW.alike⟩
def ic_P (D : va_G) (cA : Nat → ClassId) (t : Nat) (fs : List Value) (a sz : Nat) : Array Value → State → Prop := va_Pc [.ref a] (fun U => U.heap.size = sz ∧ va_P D vwCl [(a, .inr (t, fs))] U.heap ∧ ic_K D cA U)
def ic_Q {S : Type} (D : va_G) (a sz : Nat) (post : S → Prop) (w : S → va_W) : Array Value → State → Outcome → State → Prop := va_Qv post (fun u t => va_P D vwCl (w u) t.heap ∧ va_D (ic_A a sz) (w u)) (ic_A a sz)
/-- references out of a list -/
def ic_rf {α : Type} (f : α → Nat) (l : List α) : Nat → Option Nat := fun j => (l[j]?).map f
theorem ic_up {α : Type} (f : α → Nat) (l : List α) (x : α) {i : Nat} (hi : i = l.length) : va_up (ic_rf f l) i (some (f x)) = ic_rf f (l ++ [x]) := by
  subst hi
  funext j
  unfold va_up ic_rf
  by_cases h : j = l.length
  · subst h
    rw [if_pos rfl, List.getElem?_append_right (Nat.le_refl _), Nat.sub_self]
    rfl
  · rw [if_neg h]
    rcases Nat.lt_or_ge j l.length with q | q
    · rw [List.getElem?_append_left q]
    · rw [List.getElem?_eq_none q, List.getElem?_eq_none (by rw [List.length_append]; show l.length + 1 ≤ j; omega)]
theorem ic_rf0 {α : Type} (f : α → Nat) : (fun _ : Nat => (none : Option Nat)) = ic_rf f [] := by
  funext j
  rfl
theorem ic_last {ws t : va_W} {x : Nat × va_E} : (ws ++ (x :: t))[ws.length]? = some x := by
  rw [List.getElem?_append_right (Nat.le_refl _), Nat.sub_self]
  rfl
theorem ic_start {D : va_G} {a : Nat} {e : va_E} {H : Heap} (hP : va_P D vwCl [(a, e)] H) : ic_W D [(a, e)] (ic_A a H.size) H H [] := by
  have h1 : ∀ (i : Nat) (p : Nat × va_E), [(a, e)][i]? = some p → i = 0 ∧ p = (a, e) := by
    intro i p h
    match i, h with
    | 0, h => exact ⟨rfl, (Option.some.inj h).symm⟩
    | i + 1, h => cases h
  refine ⟨hP, ⟨fun i j p q hi hj _ => (h1 i p hi).1.trans (h1 j q hj).1.symm, fun k q h => ?_⟩, va_S.rf⟩
  rw [(h1 k q h).2]
  exact Or.inl rfl
theorem ic_one {D : va_G} {ws : va_W} {a : Nat} {e : va_E} {A : Nat → Prop} {H0 H : Heap} {locs : List Loc} (hW : ic_W D (ws ++ [(a, e)]) A H0 H locs) : va_P D vwCl [(a, e)] H := by
  intro k q h
  match k, h with
  | 0, h => exact hW.1 ws.length q (ic_last.trans h)
  | k + 1, h => cases h
theorem ic_jn {A0 : Nat → Prop} {D : va_G} {wr w1 : va_W} {a : Nat} {e : va_E} {H H1 : Heap} (hP : va_P D vwCl (wr ++ [(a, e)]) H) (hD : va_D A0 (wr ++ [(a, e)])) (hf : ∀ q, ic_A a H.size q → A0 q) (hk : ∀ q : Nat, q < H.size → ¬ ic_A a H.size q → H1[q]? = H[q]?) (hP1 : va_P D vwCl w1 H1) (hD1 : va_D (ic_A a H.size) w1) : va_P D vwCl (wr ++ w1) H1 ∧ va_D A0 (wr ++ w1) := by
  have lf : ∀ (k : Nat) (q : Nat × va_E), wr[k]? = some q → k < wr.length ∧ (wr ++ [(a, e)])[k]? = some q := fun k q h => by
    have hl := (List.getElem?_eq_some_iff.mp h).1
    exact ⟨hl, by rw [List.getElem?_append_left hl]; exact h⟩
  have apart : ∀ (k : Nat) (q : Nat × va_E), wr[k]? = some q → q.1 < H.size ∧ ¬ ic_A a H.size q.1 := by
    intro k q hq
    obtain ⟨hl, h2⟩ := lf k q hq
    have hlt := (hP k q h2).lt
    refine ⟨hlt, fun h => ?_⟩
    rcases h with h | h
    · have := hD.1 k wr.length q (a, e) h2 ic_last h
      omega
    · omega
  refine ⟨va_P.app (fun k q hq => ?_) hP1, va_D.app ⟨fun i j p q hi hj e => hD.1 i j p q (lf i p hi).2 (lf j q hj).2 e, fun k q hq => hD.2 k q (lf k q hq).2⟩ (hD1.weaken (fun k q _ h => hf q.1 h)) (fun i j x y hx hy hxy => ?_)⟩
  · obtain ⟨g1, g2⟩ := apart k q hq
    exact (hP k q (lf k q hq).2).kept (hk q.1 g1 g2)
  · exact (apart i x hx).2 (by rw [hxy]; exact hD1.2 j y hy)
theorem ic_W.swap {D : va_G} {a b c : va_W} {A : Nat → Prop} {H0 H : Heap} {locs : List Loc} (h : ic_W D ((a ++ b) ++ c) A H0 H locs) : ic_W D ((a ++ c) ++ b) A H0 H locs := ⟨h.1.swap, h.2.1.swap, h.2.2⟩
theorem ic_W.asc {D : va_G} {a b c : va_W} {A : Nat → Prop} {H0 H : Heap} {locs : List Loc} (h : ic_W D ((a ++ b) ++ c) A H0 H locs) : ic_W D (a ++ (b ++ c)) A H0 H locs := by
  rw [← List.append_assoc]
  exact h
theorem ic_ra {U : State} {a b : ClassId} {ty : FieldType} (h1 : va_RA U a ty) (h2 : va_RA U b ty) : a = b := by
  cases ty with
  | object C =>
    obtain ⟨_, _, _, _, _, e1⟩ := h1
    obtain ⟨_, _, _, _, _, e2⟩ := h2
    exact Option.some.inj (e1.symm.trans e2)
  | _ =>
    have e1 : U.vm.findClass _ = some a := h1
    have e2 : U.vm.findClass _ = some b := h2
    exact Option.some.inj (e1.symm.trans e2)
theorem ic_cls {D : va_G} {cA : Nat → ClassId} {s : State} {c' ci : ClassId} {ty : FieldType} (hK : va_K D vwCl (tysX cA ++ [(c', ty)]) s) (i : Nat) (hi : (tysX cA)[i]? = some (ci, ty)) : c' = ci := by
  have hl := (List.getElem?_eq_some_iff.mp hi).1
  exact ic_ra (hK.2 6 (c', ty) rfl).2 (hK.2 i (ci, ty) (by rw [List.getElem?_append_left hl]; exact hi)).2
theorem ic_W.swap3 {D : va_G} {a b c d : va_W} {A : Nat → Prop} {H0 H : Heap} {locs : List Loc} (h : ic_W D ((a ++ b) ++ (c ++ d)) A H0 H locs) : ic_W D ((a ++ c) ++ (b ++ d)) A H0 H locs := by
  have h1 := h.swap
  rw [← List.append_assoc] at h1
  exact h1.swap.asc
theorem ic_len {α : Type} {n : Nat} {l : List α} (h : l.length = n + 1) : ∃ x t, l = x :: t ∧ t.length = n := by
  cases l with
  | nil => cases h
  | cons x t => exact ⟨x, t, rfl, Nat.succ.inj h⟩
theorem ic_len0 {α : Type} {l : List α} (h : l.length = 0) : l = [] := List.length_eq_zero_iff.mp h
theorem ic_rfe {α : Type} (f : α → Nat) (l : List α) (n : Nat) (h : l.length = n) (G : Nat → Nat) (hg : ∀ j, j < n → (l[j]?).map f = some (G j)) : ic_rf f l = fun j => if j < n then some (G j) else none := by
  funext j
  unfold ic_rf
  by_cases q : j < n
  · rw [if_pos q, hg j q]
  · rw [if_neg q, List.getElem?_eq_none (by omega)]
    rfl
/-- a new state's cells; its numbers -/
def ic_I0 : Nat → Nat → Int32 := fun o => match o with
  | 2 | 4 | 6 | 8 => fun j => match j with
    | 10 => -2000000005
    | 11 => -2000000005
    | _ => 0
  | 13 => upd (upd (upd (upd (upd (fun _ => 0) 0 40) 1 2) 2 60) 3 10000) 4 100
  | _ => fun _ => 0
def ic_B (cA : Nat → ClassId) (ad : Nat → Nat) : va_W := (List.range 28).map (fun o => (ad o, cellX cA ad (kdS o) o (ic_I0 o) (fun _ => 0)))
theorem ic_B_at {cA : Nat → ClassId} {ad : Nat → Nat} {k : Nat} (h : k < 28) : (ic_B cA ad)[k]? = some (ad k, cellX cA ad (kdS k) k (ic_I0 k) (fun _ => 0)) := by
  unfold ic_B
  rw [List.getElem?_map, List.getElem?_range h]
  rfl
theorem ic_B_len {cA : Nat → ClassId} {ad : Nat → Nat} : (ic_B cA ad).length = 28 := by
  unfold ic_B
  rw [List.length_map, List.length_range]
theorem ic_B_first {cA : Nat → ClassId} {ad : Nat → Nat} {ws : va_W} : (ws ++ ic_B cA ad)[ws.length]? = some (ad 0, .inr (8, fieldsX ad 8 0 (ic_I0 0) (fun _ => 0))) := by
  rw [List.getElem?_append_right (Nat.le_refl _), Nat.sub_self]
  exact ic_B_at (by decide)
section ICALL
variable {p : Program} {l : Launch} {e : Env} {R : Room} {s : State} {m : MethodId} {args : Array Value} {below : List Frame} {meth : Method} {c : Code} {H : Heap} {locs : List Loc} {cells slots : Nat} {Q : State → Prop}
variable {cc : ByteArray} {pc : Nat} {ls : Array Slot} {rest st0 : List Value} {D : va_G} {cA : Nat → ClassId} {A : Nat → Prop} {H0 : Heap} {ws : va_W} {a : Nat}
theorem ic_pre {t : Nat} {fs : List Value} (hK : ic_K D cA s) (hW : ic_W D (ws ++ [(a, .inr (t, fs))]) A H0 H locs) : PreS s H (ic_P D cA t fs a H.size) [.ref a] :=
  ⟨fun _ U g mk q => ⟨q.1, q.2.1, q.2.2.1, q.2.2.2.warm (State.WarmedH.refl U)⟩, fun U hU hWm => ⟨rfl, by rw [hU], by rw [hU]; exact ic_one hW, hK.warm hWm⟩⟩
theorem ic_call {S : Type} {post : S → Prop} {w : S → va_W} {x : va_E} {mc ms : Nat} {av : Array Value} (hr : va_Run p l e R s m args below meth c H locs cells slots mc ms (F0 m pc ls st0) rest (ic_Q D a H.size post w av) (ic_A a H.size)) (hW : ic_W D (ws ++ [(a, x)]) A H0 H locs) (hA : ∀ q, H0.size ≤ q → A q)
    (kk : ∀ (u : S) (H1 : Heap) (locs1 : List Loc), post u → ic_W D (ws ++ w u) A H0 H1 locs1 → W p l e R s m args below meth c H1 locs1 (cells + mc) (slots + ms) Q (F0 m (pc + 3) ls rest)) : W p l e R s m args below meth c H locs cells slots Q (F0 m pc ls st0) := by
  have hf : ∀ q, ic_A a H.size q → A q := by
    intro q h
    rcases h with h | h
    · subst h
      exact hW.2.1.2 ws.length (q, x) ic_last
    · exact hA q (Nat.le_trans hW.2.2.1 h)
  refine va_callv hr hW.2.2 (fun q _ h => hf q h) hf (fun u t H1 locs1 ht hvm hp hB hz hk hS => ?_)
  subst ht
  have hj := ic_jn hW.1 hW.2.1 hf hk hB.1 hB.2
  exact kk u _ locs1 hp ⟨hj.1, hj.2, hS⟩
theorem ic_newa (hx : p.tables.exec = Jvm.exec) (hb : c.code = cc) {atype : ArrayType} (harr : (Cond.arrayClass (newarray.typeOf atype)).before args s = true) {ty : FieldType} (hty : newarray.typeOf atype = ty) (hK : KX D cA s) (i : Nat) {ci : ClassId} (hi : (tysX cA)[i]? = some (ci, ty)) (hW : ic_W D ws A H0 H locs) (hA : ∀ q, H0.size ≤ q → A q)
    {n : Int32} {N' : Nat} {a0 : vp_A} (ha : ∀ cA : ClassId, vp_cell cA a0 = arrV cA N' (fun _ => defaultValue ty)) (hn : ¬ n < 0) (hN : n.toNatClampNeg = N') (hbytes : N' * componentBytes ty ≤ 536870912) (hcells : cells + 1 ≤ R.cells) (hslots : slots + N' ≤ R.slots) (hdg : decode cc pc = .ok (.newarray atype, 2))
    (kk : ∀ (q : Nat) (H1 : Heap), ic_W D (ws ++ [(q, .inl (ci, a0))]) A H0 H1 locs → W p l e R s m args below meth c H1 locs (cells + 1) (slots + N') Q (F0 m (pc + 2) ls (.ref q :: rest))) : W p l e R s m args below meth c H locs cells slots Q (F0 m pc ls (.int n :: rest)) := by
  refine va_newa hx hb harr hty hK.1 hW.1 hW.2.1 hW.2.2 hA ha hn hN hbytes hcells hslots hdg (fun q c' H1 hK' hP hD hS => ?_)
  have e := ic_cls hK' i hi
  subst e
  exact kk q H1 ⟨hP, hD, hS⟩
theorem ic_newq (hx : p.tables.exec = Jvm.exec) (hb : c.code = cc) {own C : String} {index : Nat} (hown : s.vm.findClass own = some m.cls) (hclink : (Cond.classLink own index C).before args s = true) (hover : va_AO C s) (hK : KX D cA s) (i : Nat) {ci : ClassId} (hi : (tysX cA)[i]? = some (ci, .object C)) (hW : ic_W D ws A H0 H locs) (hA : ∀ q, H0.size ≤ q → A q)
    {n : Int32} {N' : Nat} (hn : ¬ n < 0) (hN : n.toNatClampNeg = N') (hbytes : N' * 4 ≤ 536870912) (hcells : cells + 1 ≤ R.cells) (hslots : slots + N' ≤ R.slots) (hdg : decode cc pc = .ok (.anewarray index, 3))
    (kk : ∀ (q : Nat) (H1 : Heap), ic_W D (ws ++ [(q, .inl (ci, N', .inr (.inr (.inr (.inr (fun _ => none))))))]) A H0 H1 locs → W p l e R s m args below meth c H1 locs (cells + 1) (slots + N') Q (F0 m (pc + 3) ls (.ref q :: rest))) : W p l e R s m args below meth c H locs cells slots Q (F0 m pc ls (.int n :: rest)) := by
  refine va_newq hx hb hown hclink hover hK.1 hW.1 hW.2.1 hW.2.2 hA hn hN hbytes hcells hslots hdg (fun q c' H1 hK' hP hD hS => ?_)
  have e := ic_cls hK' i hi
  subst e
  exact kk q H1 ⟨hP, hD, hS⟩
theorem ic_new (hx : p.tables.exec = Jvm.exec) (hb : c.code = cc) {own C : String} {T : u_T} {N ci index : Nat} {Ts : List Cond} (hts : ∀ w ∈ Ts, w.before args s = true) (hin : ∀ w ∈ u_ws C T N, w ∈ Ts) (ty : Nat → FieldType) (hty : ∀ k, k < N → parseFieldDescriptor (T k).2.2.1 = some (ty k)) (hown : s.vm.findClass own = some m.cls) (hcl : (Cond.classLink own index C).before args s = true) (hinst : (Cond.instantiable C N).before args s = true) (hini : (Cond.initialized C).before args s = true)
    (hK : KX D cA s) (hW : ic_W D ws A H0 H locs) (hA : ∀ q, H0.size ≤ q → A q) (hc : vwCl[ci]? = some (C, T, N)) {fs : List Value} (hfs : ∀ j, j < N → defaultValue (ty j) = vp_V fs j) (hcells : cells + 1 ≤ R.cells) (hslots : slots + N ≤ R.slots) (hdg : decode cc pc = .ok (.new index, 3))
    (kk : ∀ (q : Nat) (H1 : Heap), ic_W D (ws ++ [(q, .inr (ci, fs))]) A H0 H1 locs → W p l e R s m args below meth c H1 locs (cells + 1) (slots + N) Q (F0 m (pc + 3) ls (.ref q :: rest))) : W p l e R s m args below meth c H locs cells slots Q (F0 m pc ls rest) :=
  va_new hx hb hts hin ty hty hown hcl hinst hini hK.1 hW.1 hW.2.1 hW.2.2 hA hc hfs hcells hslots hdg (fun q H1 hP hD hS => kk q H1 ⟨hP, hD, hS⟩)
theorem ic_putF (hx : p.tables.exec = Jvm.exec) (hb : c.code = cc) {own C : String} {T : u_T} {N ci index : Nat} {Ts : List Cond} (hts : ∀ w ∈ Ts, w.before args s = true) (hin : ∀ w ∈ u_ws C T N, w ∈ Ts) (ty0 : Nat → FieldType) (hty : ∀ k, k < N → parseFieldDescriptor (T k).2.2.1 = some (ty0 k)) (hnm : ∀ a, a < N → ∀ b, b < N → a ≠ b → (T a).2.1 ≠ (T b).2.1) (hown : s.vm.findClass own = some m.cls) (hK : KX D cA s) (hW : ic_W D ws A H0 H locs) (q0 : Nat) {fs : List Value} (he : ws[q0]? = some (a, .inr (ci, fs))) (hc : vwCl[ci]? = some (C, T, N)) (k : Nat) (hk : k < N) (hlink : (Cond.fieldLink own index (T k).1 (T k).2.1 (T k).2.2.1).before args s = true) (hfin : (T k).2.2.2 = true) (hin2 : meth.name = "<init>") (hdecl : (T k).1 = own) {ty : FieldType} {v : Value} (hd : parseFieldDescriptor (T k).2.2.1 = some ty) (hn : narrow ty v = v) (hfit : fits ty v = true) (hl : k < fs.length)
    (hdg : decode cc pc = .ok (.putfield index, 3)) (kk : ∀ (H1 : Heap) (locs1 : List Loc), ic_W D (ws.set q0 (a, .inr (ci, fs.set k v))) A H0 H1 locs1 → W p l e R s m args below meth c H1 locs1 cells slots Q (F0 m (pc + 3) ls rest)) : W p l e R s m args below meth c H locs cells slots Q (F0 m pc ls (v :: .ref a :: rest)) :=
  va_putF hx hb hts hin ty0 hty hnm hown hK.1 hW.1 hW.2.1 hW.2.2 q0 he hc k hk hlink (fun _ h => h) hfin hin2 hdecl hd hn hfit hl hdg (fun H1 locs1 hP hD hS => kk H1 locs1 ⟨hP, hD, hS⟩)
theorem ic_put (hx : p.tables.exec = Jvm.exec) (hb : c.code = cc) {own C : String} {T : u_T} {N ci index : Nat} {Ts : List Cond} (hts : ∀ w ∈ Ts, w.before args s = true) (hin : ∀ w ∈ u_ws C T N, w ∈ Ts) (ty0 : Nat → FieldType) (hty : ∀ k, k < N → parseFieldDescriptor (T k).2.2.1 = some (ty0 k)) (hnm : ∀ a, a < N → ∀ b, b < N → a ≠ b → (T a).2.1 ≠ (T b).2.1) (hown : s.vm.findClass own = some m.cls) (hK : KX D cA s) (hW : ic_W D ws A H0 H locs) (q0 : Nat) {fs : List Value} (he : ws[q0]? = some (a, .inr (ci, fs))) (hc : vwCl[ci]? = some (C, T, N)) (k : Nat) (hk : k < N) (hlink : (Cond.fieldLink own index (T k).1 (T k).2.1 (T k).2.2.1).before args s = true) (hfin : (T k).2.2.2 = false) {ty : FieldType} {v : Value} (hd : parseFieldDescriptor (T k).2.2.1 = some ty) (hn : narrow ty v = v) (hfit : fits ty v = true) (hl : k < fs.length)
    (hdg : decode cc pc = .ok (.putfield index, 3)) (kk : ∀ (H1 : Heap) (locs1 : List Loc), ic_W D (ws.set q0 (a, .inr (ci, fs.set k v))) A H0 H1 locs1 → W p l e R s m args below meth c H1 locs1 cells slots Q (F0 m (pc + 3) ls rest)) : W p l e R s m args below meth c H locs cells slots Q (F0 m pc ls (v :: .ref a :: rest)) :=
  va_put hx hb hts hin ty0 hty hnm hown hK.1 hW.1 hW.2.1 hW.2.2 q0 he hc k hk hlink (fun _ h => h) hfin hd hn hfit hl hdg (fun H1 locs1 hP hD hS => kk H1 locs1 ⟨hP, hD, hS⟩)
theorem ic_get (hx : p.tables.exec = Jvm.exec) (hb : c.code = cc) {own C : String} {T : u_T} {N ci index : Nat} {Ts : List Cond} (hts : ∀ w ∈ Ts, w.before args s = true) (hin : ∀ w ∈ u_ws C T N, w ∈ Ts) (hown : s.vm.findClass own = some m.cls) (hK : KX D cA s) (hW : ic_W D ws A H0 H locs) (q0 : Nat) {fs : List Value} (he : ws[q0]? = some (a, .inr (ci, fs))) (hc : vwCl[ci]? = some (C, T, N)) (k : Nat) (hk : k < N) (hlink : (Cond.fieldLink own index (T k).1 (T k).2.1 (T k).2.2.1).before args s = true) {v : Value} (hv : fs[k]? = some v) (hdg : decode cc pc = .ok (.getfield index, 3))
    (kk : W p l e R s m args below meth c H locs cells slots Q (F0 m (pc + 3) ls (v :: rest))) : W p l e R s m args below meth c H locs cells slots Q (F0 m pc ls (.ref a :: rest)) :=
  va_get hx hb hts hin hown hK.1 hW.1 q0 he hc k hk hlink (fun _ h => h) hv hdg kk
theorem ic_iast (hx : p.tables.exec = Jvm.exec) (hb : c.code = cc) (hK : KX D cA s) (hW : ic_W D ws A H0 H locs) (q0 : Nat) {n : Nat} {f : Nat → Int32} (ha : ws[q0]? = some (a, .inl (cA 0, n, .inl f))) {i : Int32} {x : Int32} (hin : inb i n = true) (hdg : decode cc pc = .ok (.iastore, 1))
    (kk : ∀ (H1 : Heap) (locs1 : List Loc), ic_W D (ws.set q0 (a, .inl (cA 0, n, .inl (upd f (ix i) x)))) A H0 H1 locs1 → W p l e R s m args below meth c H1 locs1 cells slots Q (F0 m (pc + 1) ls rest)) : W p l e R s m args below meth c H locs cells slots Q (F0 m pc ls (.int x :: .int i :: .ref a :: rest)) :=
  va_iast hx hb hK.1 hW.1 hW.2.1 hW.2.2 q0 0 ha rfl (inb_in hin) hdg (fun H1 locs1 hP hD hS => kk H1 locs1 ⟨hP, hD, hS⟩)
theorem ic_aast (hx : p.tables.exec = Jvm.exec) (hb : c.code = cc) (hK : KX D cA s) (hW : ic_W D ws A H0 H locs) (q0 t0 qk ci : Nat) {r : vw_C} {cR : ClassId} {n v : Nat} {vs : List Value} {f : Nat → Option Nat} (ha : ws[q0]? = some (a, .inl (cR, n, .inr (.inr (.inr (.inr f)))))) (ht : (tysX cA)[t0]? = some (cR, .object r.1)) (hv : ws[qk]? = some (v, .inr (ci, vs))) (hc : vwCl[ci]? = some r) {i : Int32} (hin : inb i n = true) (hdg : decode cc pc = .ok (.aastore, 1))
    (kk : ∀ (H1 : Heap) (locs1 : List Loc), ic_W D (ws.set q0 (a, .inl (cR, n, .inr (.inr (.inr (.inr (va_up f (ix i) (some v)))))))) A H0 H1 locs1 → W p l e R s m args below meth c H1 locs1 cells slots Q (F0 m (pc + 1) ls rest)) : W p l e R s m args below meth c H locs cells slots Q (F0 m pc ls (.ref v :: .int i :: .ref a :: rest)) :=
  va_astq hx hb hK.1 hW.1 hW.2.1 hW.2.2 q0 t0 qk ci ha ht hv hc (inb_in hin) hdg (fun H1 locs1 hP hD hS => kk H1 locs1 ⟨hP, hD, hS⟩)
theorem ic_vret {S : Type} {post : S → Prop} {w : S → va_W} (hx : p.tables.exec = Jvm.exec) (hb : c.code = cc) (hr : meth.sig.returnType = none) (hlocks : meth.locks = false) (u : S) (hp : post u) (hW : ic_W D (w u) (ic_A a s.heap.size) s.heap H locs) (hdg : decode cc pc = .ok (.return_, 1)) : W p l e R s m args below meth c H locs cells slots (MQ below (ic_Q D a s.heap.size post w) args s cells slots (ic_A a s.heap.size)) (F0 m pc ls []) :=
  W.vret hx hb hr (fun t ht _ => ⟨⟨u, rfl, hp, by rw [ht]; exact hW.1, hW.2.1⟩, hW.2.2.F ht⟩) hW.2.2.2.2 hdg hlocks
end ICALL

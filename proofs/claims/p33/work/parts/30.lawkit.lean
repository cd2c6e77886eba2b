/-! THE LAW: its kit. Two worlds beside each other (the class's objects; the two rows of ints that closes makes); methods that make cells -/
def lx_A (s : State) : Nat → Prop := fun q => s.heap.size ≤ q
def lx_W (D : va_G) (cA : Nat → ClassId) (ad ad2 : Nat → Nat) (M N : Mm) (A : Nat → Prop) (H0 H : Heap) (locs : List Loc) : Prop := Xw D true cA ad M A H0 H locs ∧ Xw D false cA ad2 N A H0 H locs ∧ ∀ i, i < 238 → ∀ j, j < 2 → ad i ≠ ad2 j
def AZ (ad : Nat → Nat) (sz : Nat) : Nat → Prop := fun q => AX true ad q ∨ sz ≤ q
theorem StX.to {tL tH : Nat} {A B : Nat → Prop} {U U' : State} {H H1 : Heap} (h : StX tL tH A U H) (hq : ∀ a : Nat, a < H.size → ¬ A a → H1[a]? = H[a]?) (hAB : ∀ q, B q → A q) (hvm : U.vm.Alike U'.vm) : StX tL tH B U' H1 :=
  ⟨((h.1.kept hq).narrow hAB).moved hvm, ((h.2.1.kept hq).narrow hAB).moved hvm, ((h.2.2.1.kept hq).narrow hAB).moved hvm, ((h.2.2.2.kept hq).narrow hAB).moved hvm⟩
theorem lx_of {D : va_G} {cA : Nat → ClassId} {ad ad2 : Nat → Nat} {M N : Mm} {A : Nat → Prop} {H0 H : Heap} {locs : List Loc} (h : ic_W D (XW true cA ad M ++ XW false cA ad2 N) A H0 H locs) : lx_W D cA ad ad2 M N A H0 H locs := by
  have lf : ∀ (k : Nat) (q : Nat × va_E), (XW true cA ad M)[k]? = some q → (XW true cA ad M ++ XW false cA ad2 N)[k]? = some q := fun k q hq => by
    rw [List.getElem?_append_left (List.getElem?_eq_some_iff.mp hq).1]
    exact hq
  have rg : ∀ (k : Nat) (q : Nat × va_E), (XW false cA ad2 N)[k]? = some q → (XW true cA ad M ++ XW false cA ad2 N)[238 + k]? = some q := fun k q hq => by
    rw [List.getElem?_append_right (by rw [XW_len]; show 238 ≤ _; omega), XW_len]
    show (XW false cA ad2 N)[238 + k - 238]? = some q
    rw [show 238 + k - 238 = k by omega]
    exact hq
  refine ⟨⟨fun k q hq => h.1 k q (lf k q hq), ⟨fun i j x y hi hj e => h.2.1.1 i j x y (lf i x hi) (lf j y hj) e, fun k q hq => h.2.1.2 k q (lf k q hq)⟩, h.2.2⟩, ⟨fun k q hq => h.1 _ q (rg k q hq), ⟨fun i j x y hi hj e => ?_, fun k q hq => h.2.1.2 _ q (rg k q hq)⟩, h.2.2⟩, fun i hi j hj e => ?_⟩
  · have := h.2.1.1 _ _ x y (rg i x hi) (rg j y hj) e
    omega
  · have := h.2.1.1 _ _ _ _ (lf i _ (XW_at (show i < NS true from hi))) (rg j _ (XW_at (show j < NS false from hj))) e
    omega
theorem lx_to {D : va_G} {cA : Nat → ClassId} {ad ad2 : Nat → Nat} {M N : Mm} {A : Nat → Prop} {H0 H : Heap} {locs : List Loc} (h : lx_W D cA ad ad2 M N A H0 H locs) : ic_W D (XW true cA ad M ++ XW false cA ad2 N) A H0 H locs := by
  refine ⟨va_P.app h.1.1 h.2.1.1, va_D.app h.1.2.1 h.2.1.2.1 (fun i j x y hx hy e => ?_), h.1.2.2⟩
  obtain ⟨hi, rfl⟩ := XW_inv hx
  obtain ⟨hj, rfl⟩ := XW_inv hy
  exact h.2.2 i hi j hj e
theorem lx_two {D : va_G} {cA : Nat → ClassId} {ad : Nat → Nat} {M : Mm} {A : Nat → Prop} {H0 H : Heap} {locs : List Loc} {q3 q4 : Nat} (h : ic_W D ((XW true cA ad M ++ [(q3, .inl (cA 0, 4, .inl (fun _ => 0)))]) ++ [(q4, .inl (cA 0, 8, .inl (fun _ => 0)))]) A H0 H locs) : ∃ ad2 : Nat → Nat, ad2 0 = q3 ∧ ad2 1 = q4 ∧ lx_W D cA ad ad2 M lz0 A H0 H locs := by
  refine ⟨fun k => if k = 0 then q3 else q4, rfl, rfl, lx_of ?_⟩
  have e : XW false cA (fun k => if k = 0 then q3 else q4) lz0 = [(q3, .inl (cA 0, 4, .inl (fun _ => 0)))] ++ [(q4, .inl (cA 0, 8, .inl (fun _ => 0)))] := rfl
  rw [e, ← List.append_assoc]
  exact h
section LAWKIT
variable {p : Program} {l : Launch} {e : Env} {R : Room} {s : State} {m : MethodId} {args : Array Value} {below : List Frame} {meth : Method} {c : Code} {H : Heap} {locs : List Loc} {cells slots : Nat} {Q : State → Prop}
variable {cc : ByteArray} {pc : Nat} {ls : Array Slot} {rest st0 : List Value} {D : va_G} {cA : Nat → ClassId} {ad ad' ad2 : Nat → Nat} {M M' N N' : Mm} {A : Nat → Prop} {H0 : Heap} {a : Array Value} {P : Bool}
theorem lx_fx {H1 : Heap} {locs1 : List Loc} (hX : lx_W D cA ad ad2 M N A H0 H locs) (had : adR P true ad ad') (hB : Xp D true cA ad' M' H1) (hk : ∀ q : Nat, q < H.size → ¬ AX true ad q → H1[q]? = H[q]?) (hS : va_S A H0 H1 locs1) : lx_W D cA ad' ad2 M' N A H0 H1 locs1 := by
  refine ⟨xjoin hX.1 had hB hS, ⟨hX.2.1.1.kept (fun k q hq => hk q.1 (hX.2.1.1 k q hq).lt ?_), hX.2.1.2.1, hS⟩, fun i hi j hj => ?_⟩
  · obtain ⟨hk2, rfl⟩ := XW_inv hq
    rintro ⟨i, hi, e2⟩
    exact hX.2.2 i hi k hk2 e2.symm
  · obtain ⟨i', hi', e2⟩ := adR_in had (show i < NS true from hi)
    rw [e2]
    exact hX.2.2 i' hi' j hj
theorem lx_fy {H1 : Heap} {locs1 : List Loc} (hX : lx_W D cA ad ad2 M N A H0 H locs) (hB : Xp D false cA ad2 N' H1) (hk : ∀ q : Nat, q < H.size → ¬ AX false ad2 q → H1[q]? = H[q]?) (hS : va_S A H0 H1 locs1) : lx_W D cA ad ad2 M N' A H0 H1 locs1 := by
  refine ⟨⟨hX.1.1.kept (fun k q hq => hk q.1 (hX.1.1 k q hq).lt ?_), hX.1.2.1, hS⟩, xjoin (P := false) hX.2.1 rfl hB hS, hX.2.2⟩
  obtain ⟨hk2, rfl⟩ := XW_inv hq
  rintro ⟨j, hj, e2⟩
  exact hX.2.2 k hk2 j hj e2
theorem lx_xi {r : Int32} (hr : va_Run p l e R s m args below meth c H locs cells slots 0 0 (F0 m pc ls st0) rest (QiX P D true cA ad r M' a) (AX true ad)) (hX : lx_W D cA ad ad2 M N A H0 H locs)
    (kk : ∀ (ad' : Nat → Nat) (H1 : Heap) (locs1 : List Loc), adR P true ad ad' → lx_W D cA ad' ad2 M' N A H0 H1 locs1 → W p l e R s m args below meth c H1 locs1 cells slots Q (F0 m (pc + 3) ls (.int r :: rest))) : W p l e R s m args below meth c H locs cells slots Q (F0 m pc ls st0) := by
  refine va_calli hr hX.1.2.2 (fun q _ h => xA hX.1 q h) (xA hX.1) (fun r' ad' t H1 locs1 ht hvm hp hB hz hk hS => ?_)
  obtain ⟨rfl, had⟩ := hp
  subst ht
  exact kk ad' _ locs1 had (lx_fx hX had hB hk hS)
theorem lx_xl {r : Int64} (hr : va_Run p l e R s m args below meth c H locs cells slots 0 0 (F0 m pc ls st0) rest (QlX P D true cA ad r M' a) (AX true ad)) (hX : lx_W D cA ad ad2 M N A H0 H locs)
    (kk : ∀ (ad' : Nat → Nat) (H1 : Heap) (locs1 : List Loc), adR P true ad ad' → lx_W D cA ad' ad2 M' N A H0 H1 locs1 → W p l e R s m args below meth c H1 locs1 cells slots Q (F0 m (pc + 3) ls (.long r :: rest))) : W p l e R s m args below meth c H locs cells slots Q (F0 m pc ls st0) := by
  refine va_calll hr hX.1.2.2 (fun q _ h => xA hX.1 q h) (xA hX.1) (fun r' ad' t H1 locs1 ht hvm hp hB hz hk hS => ?_)
  obtain ⟨rfl, had⟩ := hp
  subst ht
  exact kk ad' _ locs1 had (lx_fx hX had hB hk hS)
theorem lx_ki {r : Int32} (hr : va_Run p l e R s m args below meth c H locs cells slots 0 0 (F0 m pc ls st0) rest (QiX false D true cA ad r M' a) (AX true ad)) (hX : lx_W D cA ad ad2 M N A H0 H locs)
    (kk : ∀ (H1 : Heap) (locs1 : List Loc), lx_W D cA ad ad2 M' N A H0 H1 locs1 → W p l e R s m args below meth c H1 locs1 cells slots Q (F0 m (pc + 3) ls (.int r :: rest))) : W p l e R s m args below meth c H locs cells slots Q (F0 m pc ls st0) := by
  refine va_calli hr hX.1.2.2 (fun q _ h => xA hX.1 q h) (xA hX.1) (fun r' ad' t H1 locs1 ht hvm hp hB hz hk hS => ?_)
  obtain ⟨rfl, had⟩ := hp
  have had : ad' = ad := had
  subst had
  subst ht
  exact kk _ locs1 (lx_fx (P := false) hX adR_rf hB hk hS)
theorem lx_kl {r : Int64} (hr : va_Run p l e R s m args below meth c H locs cells slots 0 0 (F0 m pc ls st0) rest (QlX false D true cA ad r M' a) (AX true ad)) (hX : lx_W D cA ad ad2 M N A H0 H locs)
    (kk : ∀ (H1 : Heap) (locs1 : List Loc), lx_W D cA ad ad2 M' N A H0 H1 locs1 → W p l e R s m args below meth c H1 locs1 cells slots Q (F0 m (pc + 3) ls (.long r :: rest))) : W p l e R s m args below meth c H locs cells slots Q (F0 m pc ls st0) := by
  refine va_calll hr hX.1.2.2 (fun q _ h => xA hX.1 q h) (xA hX.1) (fun r' ad' t H1 locs1 ht hvm hp hB hz hk hS => ?_)
  obtain ⟨rfl, had⟩ := hp
  have had : ad' = ad := had
  subst had
  subst ht
  exact kk _ locs1 (lx_fx (P := false) hX adR_rf hB hk hS)
/-- an int into one of the law's rows -/
theorem lx_iast (hx : p.tables.exec = Jvm.exec) (hb : c.code = cc) (hK : KX D cA s) (hW : lx_W D cA ad ad2 M N A H0 H locs) {k t n : Nat} (hk : KS false k = t) (ht : 20 ≤ t) (ht2 : t < 30) (hn : alen t = n) {i v : Int32} (hi : inb i n = true) {jx : Nat} (hj : ix i = jx) (hdg : decode cc pc = .ok (.iastore, 1))
    (kk : ∀ (H1 : Heap) (locs1 : List Loc), lx_W D cA ad ad2 M (wI N k jx v) A H0 H1 locs1 → W p l e R s m args below meth c H1 locs1 cells slots Q (F0 m (pc + 1) ls rest)) : W p l e R s m args below meth c H locs cells slots Q (F0 m pc ls (.int v :: .int i :: .ref (ad2 k) :: rest)) := by
  subst hn
  subst hj
  have h0 := XW_get (cA := cA) (ad := ad2) (M := N) hk (by omega)
  have he : (XW true cA ad M ++ XW false cA ad2 N)[238 + k]? = some (ad2 k, .inl (cA 0, alen t, .inl (N.1 k))) := by
    rw [List.getElem?_append_right (by rw [XW_len]; show 238 ≤ _; omega), XW_len]
    show (XW false cA ad2 N)[238 + k - 238]? = _
    rw [show 238 + k - 238 = k by omega, h0, cellX_i ht ht2]
  refine ic_iast hx hb hK (lx_to hW) (238 + k) he hi hdg (fun H1 locs1 h1 => kk H1 locs1 (lx_of ?_))
  rw [List.set_append_right _ _ (by rw [XW_len]; show 238 ≤ _; omega), XW_len] at h1
  rw [show 238 + k - NS true = k by show 238 + k - 238 = k; omega, ← cellX_i (cA := cA) (ad := ad2) (k := k) (J := N.2 k) ht ht2, XW_set (M' := wI N k (ix i) v) (I := upd (N.1 k) (ix i) v) (J := N.2 k) hk (by rw [wI_same]) rfl wI_oth] at h1
  exact h1
/-- methods of the law that make cells -/
def PcZ (D : va_G) (cA : Nat → ClassId) (ad : Nat → Nat) (M : Mm) (sz : Nat) (av : List Value) : Array Value → State → Prop := va_Pc av (fun U => Xp D true cA ad M U.heap ∧ KX D cA U ∧ U.heap.size = sz)
def PcY (D : va_G) (cA : Nat → ClassId) (ad : Nat → Nat) (M : Mm) (sz tL tH : Nat) (av : List Value) : Array Value → State → Prop := va_Pc av (fun U => Xp D true cA ad M U.heap ∧ KX D cA U ∧ U.heap.size = sz ∧ StX tL tH (AZ ad sz) U U.heap)
def QiZ (D : va_G) (cA : Nat → ClassId) (ad : Nat → Nat) (sz : Nat) (r : Int32) (M' : Mm) : Array Value → State → Outcome → State → Prop := va_Qi (fun r' (ad' : Nat → Nat) => r' = r ∧ adR true true ad ad') (fun ad' t => Xp D true cA ad' M' t.heap) (AZ ad sz)
theorem zstart (h : Xp D true cA ad M H) : Xw D true cA ad M (AZ ad H.size) H H [] := ⟨h.1, ⟨h.2.1, fun k q hq => by obtain ⟨hk, rfl⟩ := XW_inv hq; exact Or.inl ⟨k, hk, rfl⟩⟩, va_S.rf⟩
theorem zpre (hK : KX D cA s) (hW : Xw D true cA ad M A H0 H locs) {As : List Value} : PreS s H (PcZ D cA ad M H.size As) As :=
  ⟨fun _ U g mk q => ⟨q.1, q.2.1, q.2.2.1.warm (State.WarmedH.refl U), q.2.2.2⟩, fun U hU hWm => ⟨rfl, by show Xp D true cA ad M U.heap; rw [hU]; exact xback hW, hK.warm hWm, by show U.heap.size = H.size; rw [hU]⟩⟩
theorem zpreY {tL tH : Nat} (hK : KX D cA s) (hW : Xw D true cA ad M A H0 H locs) (hA : ∀ q, H0.size ≤ q → A q) (hH : H0 = s.heap) (hSt : StX tL tH A s s.heap) {As : List Value} : PreS s H (PcY D cA ad M H.size tL tH As) As :=
  ⟨fun _ U g mk q => ⟨q.1, q.2.1, q.2.2.1.warm (State.WarmedH.refl U), q.2.2.2.1, q.2.2.2.2.to (fun _ _ _ => rfl) (fun _ h => h) (Vm.Alike.refl U.vm)⟩, fun U hU hWm => ⟨rfl, by show Xp D true cA ad M U.heap; rw [hU]; exact xback hW, hK.warm hWm, by show U.heap.size = H.size; rw [hU], by
    subst hH
    show StX tL tH (AZ ad H.size) U U.heap
    rw [hU]
    exact hSt.to hW.2.2.2.1 (fun q h => h.elim (xA hW q) (fun h => hA q (Nat.le_trans hW.2.2.1 h))) hWm.alike⟩⟩
theorem zpreV {tL tH : Nat} (hK : KX D cA s) (hW : Xw D true cA ad M A s.heap H locs) (hSt : StX tL tH A s s.heap) {As : List Value} : PreV s H RX10 (ad 224) (PcS D cA ad M tL tH (.ref (ad 224) :: As)) As := by
  refine ⟨fun _ U g mk q => ⟨q.1, q.2.1, q.2.2.1.warm (State.WarmedH.refl U), q.2.2.2.to (fun _ _ _ => rfl) (fun _ h => h) (Vm.Alike.refl U.vm)⟩, (xpreV (As := As) hK hW (k := 224) rfl (by decide) rfl).2.1, fun U hU hWm => ⟨rfl, ?_, hK.warm hWm, ?_⟩⟩
  · show Xp D true cA ad M U.heap
    rw [hU]
    exact xback hW
  · show StX tL tH (AX true ad) U U.heap
    rw [hU]
    exact hSt.to hW.2.2.2.1 (xA hW) hWm.alike
theorem xz_i {r : Int32} {mc ms : Nat} (hr : va_Run p l e R s m args below meth c H locs cells slots mc ms (F0 m pc ls st0) rest (QiZ D cA ad H.size r M' a) (AZ ad H.size)) (hW : Xw D true cA ad M A H0 H locs) (hA : ∀ q, H0.size ≤ q → A q)
    (kk : ∀ (ad' : Nat → Nat) (H1 : Heap) (locs1 : List Loc), adR true true ad ad' → Xw D true cA ad' M' A H0 H1 locs1 → W p l e R s m args below meth c H1 locs1 (cells + mc) (slots + ms) Q (F0 m (pc + 3) ls (.int r :: rest))) : W p l e R s m args below meth c H locs cells slots Q (F0 m pc ls st0) := by
  have hf : ∀ q, AZ ad H.size q → A q := fun q h => h.elim (xA hW q) (fun h => hA q (Nat.le_trans hW.2.2.1 h))
  refine va_calli hr hW.2.2 (fun q _ h => hf q h) hf (fun r' ad' t H1 locs1 ht hvm hp hB hz hk hS => ?_)
  obtain ⟨rfl, had⟩ := hp
  subst ht
  exact kk ad' _ locs1 had (xjoin hW had hB hS)
theorem zzret {sz : Nat} (hx : p.tables.exec = Jvm.exec) (hb : c.code = cc) (hr : meth.sig.returnType = some .boolean) (hlocks : meth.locks = false) (hW : Xw D true cA ad' M (AZ ad sz) s.heap H locs) (had : adR true true ad ad') {v : Int32} (hz : bz v = true) (hdg : decode cc pc = .ok (.ireturn, 1)) : W p l e R s m args below meth c H locs cells slots (MQ below (QiZ D cA ad sz v M) args s cells slots (AZ ad sz)) (F0 m pc ls [.int v]) :=
  W.zret hx hb hr (bz_nar hz) (fun t ht _ => ⟨⟨v, ad', rfl, ⟨rfl, had⟩, by show Xp D true cA ad' M t.heap; rw [ht]; exact xback hW⟩, hW.2.2.F ht⟩) hW.2.2.2.2 hdg hlocks
end LAWKIT

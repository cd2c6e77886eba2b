/-! (these first rows began as the skeleton of the kit) -/
def R_law : String := "TransitMeterLaw"
def lw_P (b : Addr) (xs : List Int32) (args : Array Value) (s : State) : Prop := args = #[.ref b] ∧ s.IntsAt b xs ∧ xs.length ≤ 3072 ∧ (Jvm.Cond.and given_1 narrow_1).before args s = true
def lw_Q (_ : Array Value) (s : State) (o : Outcome) (t : State) : Prop := o = .returned (some (.int 1)) ∧ Framed s o t [] 600000 7302250
def lw_Z (below : List Frame) (a : Array Value) (s : State) : State → Prop := fun t => ∃ o, t.status = .running ∧ Ended t below o ∧ lw_Q a s o t
/-- the law's own end, with 1 on the stack, nothing written that was there before, its room as the claim has it -/
theorem lw_ret {p : Program} {l : Launch} {e : Env} {s : State} {m : MethodId} {below : List Frame} {meth : Method} {c : Code} {b : Nat} (hx : p.tables.exec = Jvm.exec) (hb : c.code = code) (hr : meth.sig.returnType = ret) (hlocks : meth.locks = false) {pc : Nat} {H : Heap} {ls : Array Slot} (hdg : decode code pc = .ok (.ireturn, 1)) : W p l e room_1 s m #[Value.ref b] below meth c H [] 600000 7302250 (lw_Z below #[Value.ref b] s) (F0 m pc ls [.int 1]) := by
  intro T hT X
  obtain ⟨fs, hret, hrun, hended, hW, hframe⟩ := X.leave (v := some (.int 1)) (hlocks := hlocks) (fun h => by rw [hr] at h; cases h)
  have hmeth' : T.vm.method? m = some meth := X.method'
  refine ⟨T.setFrames fs, ?_, .returned (some (.int 1)), hrun, hended, rfl, ⟨_, rfl⟩, hW, hframe⟩
  jvm_step X.here [X.here.top, hx, hb, hdg, hmeth', hr, ret, narrow_b1]
  (try refine ⟨rfl, ?_⟩); (try refine ⟨rfl, ?_⟩)
  first | (intro acts; rw [hret _ acts rfl rfl rfl]) | rw [hret _ _ rfl rfl rfl]
  exact Steps.refl _
/-- what holds at the law's entry: the machine, the code, the tables' words (any of lw_tbl by 'hts w (by decide +kernel)'), the script of L ints xs at the cell b, what the Statement gives of the start (any of its parts by flat_of_before) -/
def lw_At (p : Program) (s : State) (m : MethodId) (meth : Method) (c : Code) (b L : Nat) (xs : Nat → Int32) : Prop :=
  p.tables.exec = Jvm.exec ∧ c.code = code ∧ meth.sig.returnType = ret ∧ c.maxLocals = 4 ∧ s.vm.findClass R_law = some m.cls ∧ (∀ w ∈ lw_tbl, w.before #[Value.ref b] s = true) ∧ va_X b L xs s s.heap ∧ b < s.heap.size ∧ meth.locks = false ∧ (Jvm.Cond.and given_1 narrow_1).before #[Value.ref b] s = true
/-! THE LAW, 3: the two worlds beside each other -/
def lx_A (s : State) : Nat → Prop := fun q => s.heap.size ≤ q
def lx_W (D : va_G) (cA : Nat → ClassId) (ad ad2 : Nat → Nat) (M N : Mm) (A : Nat → Prop) (H0 H : Heap) (locs : List Loc) : Prop := Xw D true cA ad M A H0 H locs ∧ Xw D false cA ad2 N A H0 H locs ∧ ∀ i, i < 238 → ∀ j, j < 17 → ad i ≠ ad2 j
section LAWKIT
variable {p : Program} {l : Launch} {e : Env} {R : Room} {s : State} {m : MethodId} {args : Array Value} {below : List Frame} {meth : Method} {c : Code} {H : Heap} {locs : List Loc} {cells slots : Nat} {Q : State → Prop}
variable {cc : ByteArray} {pc : Nat} {ls : Array Slot} {rest st0 : List Value} {D : va_G} {cA : Nat → ClassId} {ad ad' ad2 : Nat → Nat} {M M' N N' : Mm} {A : Nat → Prop} {H0 : Heap} {a : Array Value} {P : Bool}
theorem lx_fx {H1 : Heap} {locs1 : List Loc} (hX : lx_W D cA ad ad2 M N A H0 H locs) (had : adR P true ad ad') (hB : Xp D true cA ad' M' H1) (hk : ∀ q : Nat, q < H.size → ¬ AX true ad q → H1[q]? = H[q]?) (hS : va_S A H0 H1 locs1) : lx_W D cA ad' ad2 M' N A H0 H1 locs1 := by
  refine ⟨xjoin hX.1 had hB hS, ⟨hX.2.1.1.kept (fun k q hq => hk q.1 (hX.2.1.1 k q hq).lt ?_), hX.2.1.2.1, hS⟩, fun i hi j hj => ?_⟩
  · obtain ⟨hk2, rfl⟩ := XW_inv hq
    rintro ⟨i, hi, e2⟩
    exact hX.2.2 i hi k hk2 e2.symm
  · obtain ⟨i', hi', e2⟩ := adR_in had (show i < NS true from hi)
    rw [e2]
    exact hX.2.2 i' hi' j hj
theorem lx_fy {H1 : Heap} {locs1 : List Loc} (hX : lx_W D cA ad ad2 M N A H0 H locs) (hB : Xp D false cA ad2 N' H1) (hk : ∀ q : Nat, q < H.size → ¬ AX false ad2 q → H1[q]? = H[q]?) (hS : va_S A H0 H1 locs1) : lx_W D cA ad ad2 M N' A H0 H1 locs1 := by
  refine ⟨⟨hX.1.1.kept (fun k q hq => hk q.1 (hX.1.1 k q hq).lt ?_), hX.1.2.1, hS⟩, xjoin (P := false) hX.2.1 rfl hB hS, hX.2.2⟩
  obtain ⟨hk2, rfl⟩ := XW_inv hq
  rintro ⟨j, hj, e2⟩
  exact hX.2.2 k hk2 j hj e2
theorem lx_xi {r : Int32} (hr : va_Run p l e R s m args below meth c H locs cells slots 0 0 (F0 m pc ls st0) rest (QiX P D true cA ad r M' a) (AX true ad)) (hX : lx_W D cA ad ad2 M N A H0 H locs)
    (kk : ∀ (ad' : Nat → Nat) (H1 : Heap) (locs1 : List Loc), adR P true ad ad' → lx_W D cA ad' ad2 M' N A H0 H1 locs1 → W p l e R s m args below meth c H1 locs1 cells slots Q (F0 m (pc + 3) ls (.int r :: rest))) : W p l e R s m args below meth c H locs cells slots Q (F0 m pc ls st0) := by
  refine va_calli hr hX.1.2.2 (fun q _ h => xA hX.1 q h) (xA hX.1) (fun r' ad' t H1 locs1 ht hvm hp hB hz hk hS => ?_)
  obtain ⟨rfl, had⟩ := hp
  subst ht
  exact kk ad' _ locs1 had (lx_fx hX had hB hk hS)
theorem lx_xl {r : Int64} (hr : va_Run p l e R s m args below meth c H locs cells slots 0 0 (F0 m pc ls st0) rest (QlX P D true cA ad r M' a) (AX true ad)) (hX : lx_W D cA ad ad2 M N A H0 H locs)
    (kk : ∀ (ad' : Nat → Nat) (H1 : Heap) (locs1 : List Loc), adR P true ad ad' → lx_W D cA ad' ad2 M' N A H0 H1 locs1 → W p l e R s m args below meth c H1 locs1 cells slots Q (F0 m (pc + 3) ls (.long r :: rest))) : W p l e R s m args below meth c H locs cells slots Q (F0 m pc ls st0) := by
  refine va_calll hr hX.1.2.2 (fun q _ h => xA hX.1 q h) (xA hX.1) (fun r' ad' t H1 locs1 ht hvm hp hB hz hk hS => ?_)
  obtain ⟨rfl, had⟩ := hp
  subst ht
  exact kk ad' _ locs1 had (lx_fx hX had hB hk hS)
theorem lx_yi {r : Int32} (hr : va_Run p l e R s m args below meth c H locs cells slots 0 0 (F0 m pc ls st0) rest (QiX false D false cA ad2 r N' a) (AX false ad2)) (hX : lx_W D cA ad ad2 M N A H0 H locs)
    (kk : ∀ (H1 : Heap) (locs1 : List Loc), lx_W D cA ad ad2 M N' A H0 H1 locs1 → W p l e R s m args below meth c H1 locs1 cells slots Q (F0 m (pc + 3) ls (.int r :: rest))) : W p l e R s m args below meth c H locs cells slots Q (F0 m pc ls st0) := by
  refine va_calli hr hX.2.1.2.2 (fun q _ h => xA hX.2.1 q h) (xA hX.2.1) (fun r' ad' t H1 locs1 ht hvm hp hB hz hk hS => ?_)
  obtain ⟨rfl, had⟩ := hp
  subst ht
  rw [show ad' = ad2 from had] at hB
  exact kk _ locs1 (lx_fy hX hB hk hS)
theorem lx_yl {r : Int64} (hr : va_Run p l e R s m args below meth c H locs cells slots 0 0 (F0 m pc ls st0) rest (QlX false D false cA ad2 r N' a) (AX false ad2)) (hX : lx_W D cA ad ad2 M N A H0 H locs)
    (kk : ∀ (H1 : Heap) (locs1 : List Loc), lx_W D cA ad ad2 M N' A H0 H1 locs1 → W p l e R s m args below meth c H1 locs1 cells slots Q (F0 m (pc + 3) ls (.long r :: rest))) : W p l e R s m args below meth c H locs cells slots Q (F0 m pc ls st0) := by
  refine va_calll hr hX.2.1.2.2 (fun q _ h => xA hX.2.1 q h) (xA hX.2.1) (fun r' ad' t H1 locs1 ht hvm hp hB hz hk hS => ?_)
  obtain ⟨rfl, had⟩ := hp
  subst ht
  rw [show ad' = ad2 from had] at hB
  exact kk _ locs1 (lx_fy hX hB hk hS)
/-- an int of the script, k behind the place j -/
theorem lx_arg (hx : p.tables.exec = Jvm.exec) (hb : c.code = cc) {b L : Nat} {xs : Nat → Int32} (hXs : va_X b L xs s s.heap) (hbl : b < s.heap.size) (hS : va_S (lx_A s) s.heap H locs) {v2 v1 : Value} {j k : Nat} (hl : lv_has ls 4 [(3, .int (nI j)), (2, v2), (1, v1), (0, .ref b)]) (hj : j + k < L) (hL : L ≤ 3072) {n : Int} (hn : Int32.ofInt n = nI k)
    (d1 : decode cc pc = .ok (.aload_n 0, 1)) (d2 : decode cc (pc + 1) = .ok (.iload_n 3, 1)) (d3 : decode cc (pc + 1 + 1) = .ok (.iconst n, 1)) (d4 : decode cc (pc + 1 + 1 + 1) = .ok (.iadd, 1)) (d5 : decode cc (pc + 1 + 1 + 1 + 1) = .ok (.iaload, 1))
    (kk : W p l e R s m args below meth c H locs cells slots Q (F0 m (pc + 5) ls (.int (xs (j + k)) :: rest))) : W p l e R s m args below meth c H locs cells slots Q (F0 m pc ls rest) := by
  refine lv_aload_n hx hb d1 rfl (lv_at hl 3 rfl) ?_
  refine lv_iload_n hx hb d2 rfl (lv_at hl 0 rfl) ?_
  refine lv_iconst hx hb d3 hn ?_
  refine lv_iadd hx hb d4 ?_
  rw [nI_add]
  refine va_sld hx hb hXs hbl (Nat.not_le.mpr hbl) hS (vp_in_nI hj (by omega)) d5 ?_
  rw [nI_clamp (show j + k < 2 ^ 31 by omega)]
  exact kk
end LAWKIT
theorem lx_and (x : Int32) : ∃ k, k < 32 ∧ x &&& 31 = nI k := by
  have h : x.toBitVec.toNat &&& 31 < 32 := Nat.lt_of_le_of_lt Nat.and_le_right (by decide)
  refine ⟨x.toBitVec.toNat &&& 31, h, ?_⟩
  apply Int32.toBitVec_inj.1
  apply BitVec.eq_of_toNat_eq
  show (x.toBitVec &&& 31#32).toNat = (BitVec.ofNat 32 (x.toBitVec.toNat &&& 31)).toNat
  rw [BitVec.toNat_and]
  show x.toBitVec.toNat &&& 31 = (x.toBitVec.toNat &&& 31) % 2 ^ 32
  exact (Nat.mod_eq_of_lt (Nat.lt_trans h (by decide))).symm
/-- where the law goes on behind a call's comparison -/
def lx_K (p : Program) (l : Launch) (e : Env) (s : State) (m : MethodId) (below : List Frame) (meth : Method) (c : Code) (D : va_G) (cA : Nat → ClassId) (b j : Nat) : Prop :=
  ∀ (ad ad2 : Nat → Nat) (M N : Mm) (H : Heap) (locs : List Loc) (ls : Array Slot), Rel M N → lx_W D cA ad ad2 M N (lx_A s) s.heap H locs → lv_has ls 4 [(3, .int (nI j)), (2, .ref (ad2 0)), (1, .ref (ad 224)), (0, .ref b)] → W p l e room_1 s m #[Value.ref b] below meth c H locs 600000 7302250 (lw_Z below #[Value.ref b] s) (F0 m 976 ls [])

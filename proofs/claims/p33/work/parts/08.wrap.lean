/-! instructions over the world Xw -/
section XWRAP
variable {p : Program} {l : Launch} {e : Env} {R : Room} {s : State} {m : MethodId} {args : Array Value} {below : List Frame} {meth : Method} {c : Code} {H : Heap} {locs : List Loc} {cells slots : Nat} {Q : State → Prop}
variable {cc : ByteArray} {pc : Nat} {ls : Array Slot} {rest : List Value} {D : va_G} {b : Bool} {cA : Nat → ClassId} {ad : Nat → Nat} {M : Mm} {A : Nat → Prop} {H0 : Heap}
theorem xget (hx : p.tables.exec = Jvm.exec) (hb : c.code = cc) {own C : String} {T : u_T} {N ci index : Nat} {Ts : List Cond} (hts : ∀ w ∈ Ts, w.before args s = true) (hin : ∀ w ∈ u_ws C T N, w ∈ Ts) (hown : s.vm.findClass own = some m.cls) (hK : KX D cA s) (hW : Xw D b cA ad M A H0 H locs) {k : Nat} (hk : KS b k = ci) (h20 : ci < 20) (hc : vwCl[ci]? = some (C, T, N)) (j : Nat) (hj : j < N) (hlink : (Cond.fieldLink own index (T j).1 (T j).2.1 (T j).2.2.1).before args s = true) {v : Value} (hv : (fieldsX ad ci k (M.1 k) (M.2 k))[j]? = some v) (hdg : decode cc pc = .ok (.getfield index, 3))
    (kk : W p l e R s m args below meth c H locs cells slots Q (F0 m (pc + 3) ls (v :: rest))) : W p l e R s m args below meth c H locs cells slots Q (F0 m pc ls (.ref (ad k) :: rest)) := by
  have he := XW_get (cA := cA) (ad := ad) (M := M) hk (by omega)
  rw [cellX_o h20] at he
  exact va_get hx hb hts hin hown hK.1 hW.1 k he hc j hj hlink (fun _ h => h) hv hdg kk
theorem xput (hx : p.tables.exec = Jvm.exec) (hb : c.code = cc) {own C : String} {T : u_T} {N ci index : Nat} {Ts : List Cond} (hts : ∀ w ∈ Ts, w.before args s = true) (hin : ∀ w ∈ u_ws C T N, w ∈ Ts) (ty0 : Nat → FieldType) (hty : ∀ k, k < N → parseFieldDescriptor (T k).2.2.1 = some (ty0 k)) (hnm : ∀ a, a < N → ∀ b, b < N → a ≠ b → (T a).2.1 ≠ (T b).2.1) (hown : s.vm.findClass own = some m.cls) (hK : KX D cA s) (hW : Xw D b cA ad M A H0 H locs) {k : Nat} (hk : KS b k = ci) (h20 : ci < 20) (hc : vwCl[ci]? = some (C, T, N)) (j : Nat) (hj : j < N) (hlink : (Cond.fieldLink own index (T j).1 (T j).2.1 (T j).2.2.1).before args s = true) (hfin : (T j).2.2.2 = false) {ty : FieldType} {v : Value} (hd : parseFieldDescriptor (T j).2.2.1 = some ty) (hn : narrow ty v = v) (hfit : fits ty v = true) (hl : j < (fieldsX ad ci k (M.1 k) (M.2 k)).length)
    {M' : Mm} (hset : (fieldsX ad ci k (M.1 k) (M.2 k)).set j v = fieldsX ad ci k (M'.1 k) (M'.2 k)) (hoth : ∀ q, q ≠ k → M'.1 q = M.1 q ∧ M'.2 q = M.2 q) (hdg : decode cc pc = .ok (.putfield index, 3))
    (kk : ∀ (H1 : Heap) (locs1 : List Loc), Xw D b cA ad M' A H0 H1 locs1 → W p l e R s m args below meth c H1 locs1 cells slots Q (F0 m (pc + 3) ls rest)) : W p l e R s m args below meth c H locs cells slots Q (F0 m pc ls (v :: .ref (ad k) :: rest)) := by
  have he := XW_get (cA := cA) (ad := ad) (M := M) hk (by omega)
  rw [cellX_o h20] at he
  refine va_put hx hb hts hin ty0 hty hnm hown hK.1 hW.1 hW.2.1 hW.2.2 k he hc j hj hlink (fun _ h => h) hfin hd hn hfit hl hdg (fun H1 locs1 hP hD hS => kk H1 locs1 ?_)
  rw [hset, ← cellX_o (cA := cA) h20, XW_set (M' := M') hk rfl rfl hoth] at hP hD
  exact ⟨hP, hD, hS⟩
theorem wI_oth {M : Mm} {a j : Nat} {v : Int32} : ∀ q, q ≠ a → (wI M a j v).1 q = M.1 q ∧ (wI M a j v).2 q = M.2 q := fun q h => ⟨by funext i; simp [wI, h], rfl⟩
theorem wJ_oth {M : Mm} {a j : Nat} {v : Int64} : ∀ q, q ≠ a → (wJ M a j v).1 q = M.1 q ∧ (wJ M a j v).2 q = M.2 q := fun q h => ⟨rfl, by funext i; simp [wJ, h]⟩
theorem wC_oth {M : Mm} {d s n : Nat} : ∀ q, q ≠ d → (wC M d s n).1 q = M.1 q ∧ (wC M d s n).2 q = M.2 q := fun q h => ⟨by funext i; simp [wC, h], rfl⟩
theorem wI_same {M : Mm} {a j : Nat} {v : Int32} : (wI M a j v).1 a = upd (M.1 a) j v := by funext i; simp [wI, upd]
theorem wJ_same {M : Mm} {a j : Nat} {v : Int64} : (wJ M a j v).2 a = vp_updL (M.2 a) j v := by funext i; simp [wJ, vp_updL]
theorem xiald (hx : p.tables.exec = Jvm.exec) (hb : c.code = cc) (hK : KX D cA s) (hW : Xw D b cA ad M A H0 H locs) {k t n : Nat} (hk : KS b k = t) (ht : 20 ≤ t) (ht2 : t < 30) (hn : alen t = n) {i : Int32} (hi : inb i n = true) {jx : Nat} (hj : ix i = jx) (hdg : decode cc pc = .ok (.iaload, 1))
    (kk : W p l e R s m args below meth c H locs cells slots Q (F0 m (pc + 1) ls (.int (gI M k jx) :: rest))) : W p l e R s m args below meth c H locs cells slots Q (F0 m pc ls (.int i :: .ref (ad k) :: rest)) := by
  have he := XW_get (cA := cA) (ad := ad) (M := M) hk (by omega)
  rw [cellX_i ht ht2] at he
  subst hn
  subst hj
  exact va_iald hx hb hK.1 hW.1 k 0 he rfl (inb_in hi) hdg kk
theorem xzald (hx : p.tables.exec = Jvm.exec) (hb : c.code = cc) (hK : KX D cA s) (hW : Xw D b cA ad M A H0 H locs) {k t n : Nat} (hk : KS b k = t) (ht : 30 ≤ t) (ht2 : t < 40) (hn : alen t = n) {i : Int32} (hi : inb i n = true) {jx : Nat} (hj : ix i = jx) (hdg : decode cc pc = .ok (.baload, 1))
    (kk : W p l e R s m args below meth c H locs cells slots Q (F0 m (pc + 1) ls (.int (gI M k jx) :: rest))) : W p l e R s m args below meth c H locs cells slots Q (F0 m pc ls (.int i :: .ref (ad k) :: rest)) := by
  have he := XW_get (cA := cA) (ad := ad) (M := M) hk (by omega)
  rw [cellX_z ht ht2] at he
  subst hn
  subst hj
  exact va_zald hx hb hK.1 hW.1 k 2 he rfl (inb_in hi) hdg kk
theorem xaald (hx : p.tables.exec = Jvm.exec) (hb : c.code = cc) (hK : KX D cA s) (hW : Xw D b cA ad M A H0 H locs) {k t n t0 : Nat} {C : String} (hk : KS b k = t) (ht : 50 ≤ t) (ht2 : t < 90) (hn : alen t = n) (ht0 : (tysX cA)[t0]? = some (cA (if t = 50 then 3 else if t = 51 then 4 else 5), .object C)) {i : Int32} (hi : inb i n = true) (hdg : decode cc pc = .ok (.aaload, 1))
    (kk : W p l e R s m args below meth c H locs cells slots Q (F0 m (pc + 1) ls (.ref (ad (rid t k (ix i))) :: rest))) : W p l e R s m args below meth c H locs cells slots Q (F0 m pc ls (.int i :: .ref (ad k) :: rest)) := by
  have he := XW_get (cA := cA) (ad := ad) (M := M) hk (by omega)
  rw [cellX_q ht] at he
  subst hn
  exact va_aldq hx hb hK.1 hW.1 k t0 he ht0 (inb_in hi) hdg (by rw [show i.toNatClampNeg = ix i from rfl, if_pos (inb_lt hi)]; exact kk)
theorem xiast (hx : p.tables.exec = Jvm.exec) (hb : c.code = cc) (hK : KX D cA s) (hW : Xw D b cA ad M A H0 H locs) {k t n : Nat} (hk : KS b k = t) (ht : 20 ≤ t) (ht2 : t < 30) (hn : alen t = n) {i v : Int32} (hi : inb i n = true) {jx : Nat} (hj : ix i = jx) (hdg : decode cc pc = .ok (.iastore, 1))
    (kk : ∀ (H1 : Heap) (locs1 : List Loc), Xw D b cA ad (wI M k jx v) A H0 H1 locs1 → W p l e R s m args below meth c H1 locs1 cells slots Q (F0 m (pc + 1) ls rest)) : W p l e R s m args below meth c H locs cells slots Q (F0 m pc ls (.int v :: .int i :: .ref (ad k) :: rest)) := by
  have he := XW_get (cA := cA) (ad := ad) (M := M) hk (by omega)
  rw [cellX_i ht ht2] at he
  subst hn
  subst hj
  refine va_iast hx hb hK.1 hW.1 hW.2.1 hW.2.2 k 0 he rfl (inb_in hi) hdg (fun H1 locs1 hP hD hS => kk H1 locs1 ?_)
  rw [← cellX_i (cA := cA) (ad := ad) (k := k) (J := M.2 k) ht ht2, XW_set (M' := wI M k (ix i) v) (I := upd (M.1 k) i.toNatClampNeg v) (J := M.2 k) hk (by rw [wI_same]; rfl) rfl wI_oth] at hP hD
  exact ⟨hP, hD, hS⟩
theorem xzast (hx : p.tables.exec = Jvm.exec) (hb : c.code = cc) (hK : KX D cA s) (hW : Xw D b cA ad M A H0 H locs) {k t n : Nat} (hk : KS b k = t) (ht : 30 ≤ t) (ht2 : t < 40) (hn : alen t = n) {i v : Int32} (hi : inb i n = true) {jx : Nat} (hj : ix i = jx) (hz : bz v = true) (hdg : decode cc pc = .ok (.bastore, 1))
    (kk : ∀ (H1 : Heap) (locs1 : List Loc), Xw D b cA ad (wI M k jx v) A H0 H1 locs1 → W p l e R s m args below meth c H1 locs1 cells slots Q (F0 m (pc + 1) ls rest)) : W p l e R s m args below meth c H locs cells slots Q (F0 m pc ls (.int v :: .int i :: .ref (ad k) :: rest)) := by
  have he := XW_get (cA := cA) (ad := ad) (M := M) hk (by omega)
  rw [cellX_z ht ht2] at he
  subst hn
  subst hj
  refine va_zast hx hb hK.1 hW.1 hW.2.1 hW.2.2 k 2 he rfl (inb_in hi) hdg (fun H1 locs1 hP hD hS => kk H1 locs1 ?_)
  rw [bz_vp hz, ← cellX_z (cA := cA) (ad := ad) (k := k) (J := M.2 k) ht ht2, XW_set (M' := wI M k (ix i) v) (I := upd (M.1 k) i.toNatClampNeg v) (J := M.2 k) hk (by rw [wI_same]; rfl) rfl wI_oth] at hP hD
  exact ⟨hP, hD, hS⟩
theorem xalen (hx : p.tables.exec = Jvm.exec) (hb : c.code = cc) (hK : KX D cA s) (hW : Xw D b cA ad M A H0 H locs) {k t : Nat} (hk : KS b k = t) (ht : 20 ≤ t) (ht2 : t < 90) {v : Int32} (hv : Int32.ofNat (alen t) = v) (hdg : decode cc pc = .ok (.arraylength, 1))
    (kk : W p l e R s m args below meth c H locs cells slots Q (F0 m (pc + 1) ls (.int v :: rest))) : W p l e R s m args below meth c H locs cells slots Q (F0 m pc ls (.ref (ad k) :: rest)) := by
  have he := XW_get (cA := cA) (ad := ad) (M := M) hk ht2
  by_cases h1 : t < 30
  · rw [cellX_i ht h1] at he
    exact va_alen hx hb hK.1 hW.1 k 0 he rfl hv hdg kk
  · by_cases h2 : t < 40
    · rw [cellX_z (by omega) h2] at he
      exact va_alen hx hb hK.1 hW.1 k 2 he rfl hv hdg kk
    · by_cases h3 : t < 50
      · rw [cellX_l (by omega) h3] at he
        exact va_alen hx hb hK.1 hW.1 k 1 he rfl hv hdg kk
      · rw [cellX_q (by omega)] at he
        by_cases h4 : t = 50
        · rw [if_pos h4] at he
          exact va_alen hx hb hK.1 hW.1 k 3 he rfl hv hdg kk
        · rw [if_neg h4] at he
          by_cases h5 : t = 51
          · rw [if_pos h5] at he
            exact va_alen hx hb hK.1 hW.1 k 4 he rfl hv hdg kk
          · rw [if_neg h5] at he
            exact va_alen hx hb hK.1 hW.1 k 5 he rfl hv hdg kk
/-- System.arraycopy of the first n ints -/
theorem xcopy (hx : p.tables.exec = Jvm.exec) (hb : c.code = cc) (hml : c.maxLocals = ls.size) {own : String} {index : Nat} (hown : s.vm.findClass own = some m.cls) (hlink : (Cond.methodLink own index arraycopyName).before args s = true) (hnat : (Cond.native arraycopyName).before args s = true) (hstat : (Cond.static arraycopyName).before args s = true) (hini : (Cond.initialized "java/lang/System").before args s = true) (hK : KX D cA s) (hW : Xw D b cA ad M A H0 H locs) {k0 k1 t0 t1 : Nat} (hk0 : KS b k0 = t0) (ht0 : 20 ≤ t0) (ht02 : t0 < 30) (hk1 : KS b k1 = t1) (ht1 : 20 ≤ t1) (ht12 : t1 < 30) {n : Int32} {N : Nat} (h3 : ¬ n < 0) (hN : n.toNatClampNeg = N) (h4 : N ≤ alen t0) (h5 : N ≤ alen t1)
    (hframes : 1 ≤ R.frames) (hlocals : (rest.map fun v => v.category).sum + (nativeFrameWords "java/lang/System" "arraycopy" 5 + 11) ≤ R.locals) (hdg : decode cc pc = .ok (.invokestatic index, 3))
    (kk : ∀ (H1 : Heap) (locs1 : List Loc), Xw D b cA ad (wC M k1 k0 N) A H0 H1 locs1 → W p l e R s m args below meth c H1 locs1 cells slots Q (F0 m (pc + 3) ls rest)) : W p l e R s m args below meth c H locs cells slots Q (F0 m pc ls (.int n :: .int 0 :: .ref (ad k1) :: .int 0 :: .ref (ad k0) :: rest)) := by
  subst hN
  have he0 := XW_get (cA := cA) (ad := ad) (M := M) hk0 (by omega)
  rw [cellX_i ht0 ht02] at he0
  have he1 := XW_get (cA := cA) (ad := ad) (M := M) hk1 (by omega)
  rw [cellX_i ht1 ht12] at he1
  refine va_copyi (ty := .int) hx hb hml hown hlink hnat hstat hini hK.1 hW.1 hW.2.1 hW.2.2 k0 k1 0 0 he0 he1 rfl rfl rfl (by decide) (by decide) h3 (by show 0 + _ ≤ _; omega) (by show 0 + _ ≤ _; omega) (fun _ _ => rfl) hframes hlocals hdg (fun H1 locs1 hP hD hS => kk H1 locs1 ?_)
  have e : ∀ n : Nat, va_cpy (M.1 k0) (M.1 k1) (0 : Int32).toNatClampNeg (0 : Int32).toNatClampNeg n = (wC M k1 k0 n).1 k1 := by
    intro n
    funext j
    have z : (0 : Int32).toNatClampNeg = 0 := rfl
    simp [va_cpy, wC, z]
  rw [e, ← cellX_i (cA := cA) (ad := ad) (k := k1) (J := M.2 k1) ht1 ht12, XW_set (M' := wC M k1 k0 n.toNatClampNeg) (I := (wC M k1 k0 n.toNatClampNeg).1 k1) (J := M.2 k1) hk1 rfl rfl wC_oth] at hP hD
  exact ⟨hP, hD, hS⟩
end XWRAP

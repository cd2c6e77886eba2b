/-! contracts over the world: P = true: the method may change which address an id has, but of no stable id -/
def stb (k : Nat) : Bool := decide (k < 16) || decide (168 ≤ k)
def adR (P b : Bool) (ad ad' : Nat → Nat) : Prop := match P with
  | true => (∀ k, stb k = true → ad' k = ad k) ∧ ∀ k, k < NS b → ∃ j, j < NS b ∧ ad' k = ad j
  | false => ad' = ad
theorem adR_in {P b : Bool} {ad ad' : Nat → Nat} (h : adR P b ad ad') {k : Nat} (hk : k < NS b) : ∃ j, j < NS b ∧ ad' k = ad j := by
  cases P with
  | true => exact h.2 k hk
  | false => exact ⟨k, hk, congrFun h k⟩
theorem adR_rf {P b : Bool} {ad : Nat → Nat} : adR P b ad ad := by
  cases P with
  | true => exact ⟨fun _ _ => rfl, fun k hk => ⟨k, hk, rfl⟩⟩
  | false => rfl
theorem adR_tr {b : Bool} {ad ad1 ad2 : Nat → Nat} (h1 : adR true b ad ad1) (h2 : adR true b ad1 ad2) : adR true b ad ad2 := by
  refine ⟨fun k hk => (h2.1 k hk).trans (h1.1 k hk), fun k hk => ?_⟩
  obtain ⟨j, hj, e⟩ := h2.2 k hk
  obtain ⟨i, hi, e2⟩ := h1.2 j hj
  exact ⟨i, hi, e.trans e2⟩
def PcX (D : va_G) (b : Bool) (cA : Nat → ClassId) (ad : Nat → Nat) (M : Mm) (av : List Value) : Array Value → State → Prop := va_Pc av (fun U => Xp D b cA ad M U.heap ∧ KX D cA U)
def QiX (P : Bool) (D : va_G) (b : Bool) (cA : Nat → ClassId) (ad : Nat → Nat) (r : Int32) (M' : Mm) : Array Value → State → Outcome → State → Prop := va_Qi (fun r' (ad' : Nat → Nat) => r' = r ∧ adR P b ad ad') (fun ad' t => Xp D b cA ad' M' t.heap) (AX b ad)
def QlX (P : Bool) (D : va_G) (b : Bool) (cA : Nat → ClassId) (ad : Nat → Nat) (r : Int64) (M' : Mm) : Array Value → State → Outcome → State → Prop := va_Ql (fun r' (ad' : Nat → Nat) => r' = r ∧ adR P b ad ad') (fun ad' t => Xp D b cA ad' M' t.heap) (AX b ad)
def QvX (P : Bool) (D : va_G) (b : Bool) (cA : Nat → ClassId) (ad : Nat → Nat) (M' : Mm) : Array Value → State → Outcome → State → Prop := va_Qv (fun (ad' : Nat → Nat) => adR P b ad ad') (fun ad' t => Xp D b cA ad' M' t.heap) (AX b ad)
def QqX (P : Bool) (D : va_G) (b : Bool) (cA : Nat → ClassId) (ad : Nat → Nat) (r : Option Nat) (M' : Mm) : Array Value → State → Outcome → State → Prop := va_Qq (fun r' (ad' : Nat → Nat) => r' = r.map ad' ∧ adR P b ad ad') (fun ad' t => Xp D b cA ad' M' t.heap) (AX b ad)
section XCALL
variable {p : Program} {l : Launch} {e : Env} {R : Room} {s : State} {m : MethodId} {args : Array Value} {below : List Frame} {meth : Method} {c : Code} {H : Heap} {locs : List Loc} {cells slots : Nat} {Q : State → Prop}
variable {cc : ByteArray} {pc : Nat} {ls : Array Slot} {rest st0 : List Value} {D : va_G} {b P : Bool} {cA : Nat → ClassId} {ad ad' : Nat → Nat} {M M' : Mm} {A : Nat → Prop} {H0 : Heap} {a : Array Value}
theorem xstart (h : Xp D b cA ad M H) : Xw D b cA ad M (AX b ad) H H [] := ⟨h.1, ⟨h.2.1, fun k q hq => by obtain ⟨hk, rfl⟩ := XW_inv hq; exact ⟨k, hk, rfl⟩⟩, va_S.rf⟩
theorem xback (hW : Xw D b cA ad M A H0 H locs) : Xp D b cA ad M H := ⟨hW.1, ⟨hW.2.1.1, fun _ _ _ => trivial⟩⟩
theorem xA (hW : Xw D b cA ad M A H0 H locs) : ∀ q, AX b ad q → A q := by
  rintro q ⟨k, hk, rfl⟩
  exact XW_ad hW.2.1 hk
theorem xjoin {H1 : Heap} {locs1 : List Loc} (hW : Xw D b cA ad M A H0 H locs) (had : adR P b ad ad') (hB : Xp D b cA ad' M' H1) (hS : va_S A H0 H1 locs1) : Xw D b cA ad' M' A H0 H1 locs1 := by
  refine ⟨hB.1, ⟨hB.2.1, fun k q hq => ?_⟩, hS⟩
  obtain ⟨hk, rfl⟩ := XW_inv hq
  obtain ⟨j, hj, e⟩ := adR_in had hk
  show A (ad' k)
  rw [e]
  exact XW_ad hW.2.1 hj
theorem xblind {av : List Value} : FrameBlind (PcX D b cA ad M av) := fun _ U g mk q => ⟨q.1, q.2.1, q.2.2.warm (State.WarmedH.refl U)⟩
theorem xpreS (hK : KX D cA s) (hW : Xw D b cA ad M A H0 H locs) {As : List Value} : PreS s H (PcX D b cA ad M As) As :=
  ⟨xblind, fun U hU hWm => ⟨rfl, by show Xp D b cA ad M U.heap; rw [hU]; exact xback hW, hK.warm hWm⟩⟩
theorem xpreV (hK : KX D cA s) (hW : Xw D b cA ad M A H0 H locs) {As : List Value} {k ci N : Nat} {C : String} {T : u_T} (hk : KS b k = ci) (h20 : ci < 20) (hc : vwCl[ci]? = some (C, T, N)) : PreV s H C (ad k) (PcX D b cA ad M (.ref (ad k) :: As)) As := by
  have he := XW_get (cA := cA) (ad := ad) (M := M) hk (by omega)
  rw [cellX_o h20] at he
  exact ⟨xblind, va_recv hK.1 hW.1 hc he, fun U hU hWm => ⟨rfl, by show Xp D b cA ad M U.heap; rw [hU]; exact xback hW, hK.warm hWm⟩⟩
theorem xc_i {r : Int32} (hr : va_Run p l e R s m args below meth c H locs cells slots 0 0 (F0 m pc ls st0) rest (QiX P D b cA ad r M' a) (AX b ad)) (hW : Xw D b cA ad M A H0 H locs)
    (kk : ∀ (ad' : Nat → Nat) (H1 : Heap) (locs1 : List Loc), adR P b ad ad' → Xw D b cA ad' M' A H0 H1 locs1 → W p l e R s m args below meth c H1 locs1 cells slots Q (F0 m (pc + 3) ls (.int r :: rest))) : W p l e R s m args below meth c H locs cells slots Q (F0 m pc ls st0) := by
  refine va_calli hr hW.2.2 (fun q _ h => xA hW q h) (xA hW) (fun r' ad' t H1 locs1 ht hvm hp hB hz hk hS => ?_)
  obtain ⟨rfl, had⟩ := hp
  subst ht
  exact kk ad' _ locs1 had (xjoin hW had hB hS)
theorem xc_l {r : Int64} (hr : va_Run p l e R s m args below meth c H locs cells slots 0 0 (F0 m pc ls st0) rest (QlX P D b cA ad r M' a) (AX b ad)) (hW : Xw D b cA ad M A H0 H locs)
    (kk : ∀ (ad' : Nat → Nat) (H1 : Heap) (locs1 : List Loc), adR P b ad ad' → Xw D b cA ad' M' A H0 H1 locs1 → W p l e R s m args below meth c H1 locs1 cells slots Q (F0 m (pc + 3) ls (.long r :: rest))) : W p l e R s m args below meth c H locs cells slots Q (F0 m pc ls st0) := by
  refine va_calll hr hW.2.2 (fun q _ h => xA hW q h) (xA hW) (fun r' ad' t H1 locs1 ht hvm hp hB hz hk hS => ?_)
  obtain ⟨rfl, had⟩ := hp
  subst ht
  exact kk ad' _ locs1 had (xjoin hW had hB hS)
theorem xc_v (hr : va_Run p l e R s m args below meth c H locs cells slots 0 0 (F0 m pc ls st0) rest (QvX P D b cA ad M' a) (AX b ad)) (hW : Xw D b cA ad M A H0 H locs)
    (kk : ∀ (ad' : Nat → Nat) (H1 : Heap) (locs1 : List Loc), adR P b ad ad' → Xw D b cA ad' M' A H0 H1 locs1 → W p l e R s m args below meth c H1 locs1 cells slots Q (F0 m (pc + 3) ls rest)) : W p l e R s m args below meth c H locs cells slots Q (F0 m pc ls st0) := by
  refine va_callv hr hW.2.2 (fun q _ h => xA hW q h) (xA hW) (fun ad' t H1 locs1 ht hvm hp hB hz hk hS => ?_)
  subst ht
  exact kk ad' _ locs1 hp (xjoin hW hp hB hS)
theorem xc_q {r : Option Nat} (hr : va_Run p l e R s m args below meth c H locs cells slots 0 0 (F0 m pc ls st0) rest (QqX P D b cA ad r M' a) (AX b ad)) (hW : Xw D b cA ad M A H0 H locs)
    (kk : ∀ (ad' : Nat → Nat) (H1 : Heap) (locs1 : List Loc), adR P b ad ad' → Xw D b cA ad' M' A H0 H1 locs1 → W p l e R s m args below meth c H1 locs1 cells slots Q (F0 m (pc + 3) ls (va_rf (r.map ad') :: rest))) : W p l e R s m args below meth c H locs cells slots Q (F0 m pc ls st0) := by
  refine va_callq hr hW.2.2 (fun q _ h => xA hW q h) (xA hW) (fun r' ad' t H1 locs1 ht hvm hp hB hz hk hS => ?_)
  obtain ⟨rfl, had⟩ := hp
  subst ht
  exact kk ad' _ locs1 had (xjoin hW had hB hS)
theorem xk_i {r : Int32} (hr : va_Run p l e R s m args below meth c H locs cells slots 0 0 (F0 m pc ls st0) rest (QiX false D b cA ad r M' a) (AX b ad)) (hW : Xw D b cA ad M A H0 H locs)
    (kk : ∀ (H1 : Heap) (locs1 : List Loc), Xw D b cA ad M' A H0 H1 locs1 → W p l e R s m args below meth c H1 locs1 cells slots Q (F0 m (pc + 3) ls (.int r :: rest))) : W p l e R s m args below meth c H locs cells slots Q (F0 m pc ls st0) :=
  xc_i hr hW (fun ad' H1 locs1 had hW1 => kk H1 locs1 (by rw [show ad' = ad from had] at hW1; exact hW1))
theorem xk_l {r : Int64} (hr : va_Run p l e R s m args below meth c H locs cells slots 0 0 (F0 m pc ls st0) rest (QlX false D b cA ad r M' a) (AX b ad)) (hW : Xw D b cA ad M A H0 H locs)
    (kk : ∀ (H1 : Heap) (locs1 : List Loc), Xw D b cA ad M' A H0 H1 locs1 → W p l e R s m args below meth c H1 locs1 cells slots Q (F0 m (pc + 3) ls (.long r :: rest))) : W p l e R s m args below meth c H locs cells slots Q (F0 m pc ls st0) :=
  xc_l hr hW (fun ad' H1 locs1 had hW1 => kk H1 locs1 (by rw [show ad' = ad from had] at hW1; exact hW1))
theorem xk_v (hr : va_Run p l e R s m args below meth c H locs cells slots 0 0 (F0 m pc ls st0) rest (QvX false D b cA ad M' a) (AX b ad)) (hW : Xw D b cA ad M A H0 H locs)
    (kk : ∀ (H1 : Heap) (locs1 : List Loc), Xw D b cA ad M' A H0 H1 locs1 → W p l e R s m args below meth c H1 locs1 cells slots Q (F0 m (pc + 3) ls rest)) : W p l e R s m args below meth c H locs cells slots Q (F0 m pc ls st0) :=
  xc_v hr hW (fun ad' H1 locs1 had hW1 => kk H1 locs1 (by rw [show ad' = ad from had] at hW1; exact hW1))
theorem xk_q {r : Option Nat} (hr : va_Run p l e R s m args below meth c H locs cells slots 0 0 (F0 m pc ls st0) rest (QqX false D b cA ad r M' a) (AX b ad)) (hW : Xw D b cA ad M A H0 H locs)
    (kk : ∀ (H1 : Heap) (locs1 : List Loc), Xw D b cA ad M' A H0 H1 locs1 → W p l e R s m args below meth c H1 locs1 cells slots Q (F0 m (pc + 3) ls (va_rf (r.map ad) :: rest))) : W p l e R s m args below meth c H locs cells slots Q (F0 m pc ls st0) :=
  xc_q hr hW (fun ad' H1 locs1 had hW1 => by rw [show ad' = ad from had] at hW1; rw [show ad' = ad from had]; exact kk H1 locs1 hW1)
theorem xiret (hx : p.tables.exec = Jvm.exec) (hb : c.code = cc) (hr : meth.sig.returnType = some .int) (hlocks : meth.locks = false) (hW : Xw D b cA ad' M (AX b ad) s.heap H locs) (had : adR P b ad ad') {v : Int32} (hdg : decode cc pc = .ok (.ireturn, 1)) : W p l e R s m args below meth c H locs cells slots (MQ below (QiX P D b cA ad v M) args s cells slots (AX b ad)) (F0 m pc ls [.int v]) :=
  W.iret hx hb hr (fun t ht _ => ⟨⟨v, ad', rfl, ⟨rfl, had⟩, by show Xp D b cA ad' M t.heap; rw [ht]; exact xback hW⟩, hW.2.2.F ht⟩) hW.2.2.2.2 hdg hlocks
theorem xzret (hx : p.tables.exec = Jvm.exec) (hb : c.code = cc) (hr : meth.sig.returnType = some .boolean) (hlocks : meth.locks = false) (hW : Xw D b cA ad' M (AX b ad) s.heap H locs) (had : adR P b ad ad') {v : Int32} (hz : bz v = true) (hdg : decode cc pc = .ok (.ireturn, 1)) : W p l e R s m args below meth c H locs cells slots (MQ below (QiX P D b cA ad v M) args s cells slots (AX b ad)) (F0 m pc ls [.int v]) :=
  W.zret hx hb hr (bz_nar hz) (fun t ht _ => ⟨⟨v, ad', rfl, ⟨rfl, had⟩, by show Xp D b cA ad' M t.heap; rw [ht]; exact xback hW⟩, hW.2.2.F ht⟩) hW.2.2.2.2 hdg hlocks
theorem xlret (hx : p.tables.exec = Jvm.exec) (hb : c.code = cc) (hr : meth.sig.returnType = some .long) (hlocks : meth.locks = false) (hW : Xw D b cA ad' M (AX b ad) s.heap H locs) (had : adR P b ad ad') {v : Int64} (hdg : decode cc pc = .ok (.lreturn, 1)) : W p l e R s m args below meth c H locs cells slots (MQ below (QlX P D b cA ad v M) args s cells slots (AX b ad)) (F0 m pc ls [.long v]) :=
  W.lret hx hb hr (fun t ht _ => ⟨⟨v, ad', rfl, ⟨rfl, had⟩, by show Xp D b cA ad' M t.heap; rw [ht]; exact xback hW⟩, hW.2.2.F ht⟩) hW.2.2.2.2 hdg hlocks
theorem xvret (hx : p.tables.exec = Jvm.exec) (hb : c.code = cc) (hr : meth.sig.returnType = none) (hlocks : meth.locks = false) (hW : Xw D b cA ad' M (AX b ad) s.heap H locs) (had : adR P b ad ad') (hdg : decode cc pc = .ok (.return_, 1)) : W p l e R s m args below meth c H locs cells slots (MQ below (QvX P D b cA ad M) args s cells slots (AX b ad)) (F0 m pc ls []) :=
  W.vret hx hb hr (fun t ht _ => ⟨⟨ad', rfl, had, by show Xp D b cA ad' M t.heap; rw [ht]; exact xback hW⟩, hW.2.2.F ht⟩) hW.2.2.2.2 hdg hlocks
theorem xaret (hx : p.tables.exec = Jvm.exec) (hb : c.code = cc) {C : String} (hr : meth.sig.returnType = some (.object C)) (hlocks : meth.locks = false) (hW : Xw D b cA ad' M (AX b ad) s.heap H locs) (had : adR P b ad ad') {k : Nat} (hdg : decode cc pc = .ok (.areturn, 1)) : W p l e R s m args below meth c H locs cells slots (MQ below (QqX P D b cA ad (some k) M) args s cells slots (AX b ad)) (F0 m pc ls [.ref (ad' k)]) :=
  W.aret hx hb hr (Or.inl ⟨_, rfl⟩) (Or.inr ⟨_, rfl⟩) (fun t ht _ => ⟨⟨some (ad' k), ad', rfl, ⟨rfl, had⟩, by show Xp D b cA ad' M t.heap; rw [ht]; exact xback hW⟩, hW.2.2.F ht⟩) hW.2.2.2.2 hdg hlocks
theorem xaretN (hx : p.tables.exec = Jvm.exec) (hb : c.code = cc) {C : String} (hr : meth.sig.returnType = some (.object C)) (hlocks : meth.locks = false) (hW : Xw D b cA ad' M (AX b ad) s.heap H locs) (had : adR P b ad ad') (hdg : decode cc pc = .ok (.areturn, 1)) : W p l e R s m args below meth c H locs cells slots (MQ below (QqX P D b cA ad none M) args s cells slots (AX b ad)) (F0 m pc ls [.null]) :=
  W.aret hx hb hr (Or.inl ⟨_, rfl⟩) (Or.inl rfl) (fun t ht _ => ⟨⟨none, ad', rfl, ⟨rfl, had⟩, by show Xp D b cA ad' M t.heap; rw [ht]; exact xback hW⟩, hW.2.2.F ht⟩) hW.2.2.2.2 hdg hlocks
end XCALL
/-- kinds of what hangs below an id -/
theorem ks_sub {t d u : Nat} (h : ∀ k, k < 238 → KS true k = t → KS true (k + d) = u) (ht : t < 90) {k : Nat} (hk : KS true k = t) : KS true (k + d) = u := h k (by have := KS_lt (b := true) (k := k) (by omega); exact this) hk
theorem ks_3s {k : Nat} (hk : KS true k = 3) : KS true (k + 1) = 7 := ks_sub (by decide +kernel) (by decide) hk
theorem ks_4a {k : Nat} (hk : KS true k = 4) : KS true (k + 1) = 22 := ks_sub (by decide +kernel) (by decide) hk
theorem ks_4b {k : Nat} (hk : KS true k = 4) : KS true (k + 2) = 22 := ks_sub (by decide +kernel) (by decide) hk
theorem ks_6k {k : Nat} (hk : KS true k = 6) : KS true (k + 1) = 51 := ks_sub (by decide +kernel) (by decide) hk
theorem ks_8p {k : Nat} (hk : KS true k = 8) : KS true (k + 1) = 50 := ks_sub (by decide +kernel) (by decide) hk
theorem ks_8f {k : Nat} (hk : KS true k = 8) : KS true (k + 10) = 4 := ks_sub (by decide +kernel) (by decide) hk
theorem ks_8s {k : Nat} (hk : KS true k = 8) : KS true (k + 13) = 21 := ks_sub (by decide +kernel) (by decide) hk
theorem ks_8r {k : Nat} (hk : KS true k = 8) : KS true (k + 14) = 6 := ks_sub (by decide +kernel) (by decide) hk
theorem ks_50 {k : Nat} {i : Int32} (hk : KS true k = 50) (hi : inb i 4 = true) : KS true (rid 50 k (ix i)) = 3 := by
  have h : ∀ k, k < 238 → KS true k = 50 → ∀ j, j < 4 → KS true (k + 1 + 2 * j) = 3 := by decide +kernel
  exact h k (KS_lt (b := true) (k := k) (by omega)) hk _ (inb_lt hi)
theorem ks_51 {k : Nat} {i : Int32} (hk : KS true k = 51) (hi : inb i 12 = true) : KS true (rid 51 k (ix i)) = 5 := by
  have h : ∀ k, k < 238 → KS true k = 51 → ∀ j, j < 12 → KS true (k + 1 + j) = 5 := by decide +kernel
  exact h k (KS_lt (b := true) (k := k) (by omega)) hk _ (inb_lt hi)
theorem ks_52 {k : Nat} {i : Int32} (_ : KS true k = 52) (hi : inb i 5 = true) : KS true (rid 52 k (ix i)) = 8 := by
  have h : ∀ j, j < 5 → KS true (28 * (j + 1)) = 8 := by decide +kernel
  exact h _ (inb_lt hi)
theorem ks_53 {k : Nat} {i : Int32} (_ : KS true k = 53) (hi : inb i 2 = true) : KS true (rid 53 k (ix i)) = 8 := by
  have h : ∀ j, j < 2 → KS true (28 * (j + 6)) = 8 := by decide +kernel
  exact h _ (inb_lt hi)
theorem wm {l : List Cond} {w : Cond} (i : Nat) (h : l[i]? = some w) : w ∈ l := List.mem_of_getElem? h
def jabs (x : Int32) : Int32 := if 0 ≤ x then x else 0 - x
def jmax (x y : Int32) : Int32 := if x < y then y else x
def jmin (x y : Int32) : Int32 := if y < x then y else x
theorem lgc_le (x y : Int64) : lg_cmp x y ≤ 0 ↔ x ≤ y := by
  unfold lg_cmp
  simp only [gt_iff_lt, Int64.lt_iff_toInt_lt, Int64.le_iff_toInt_le, ← Int64.toInt_inj]
  repeat' split
  all_goals (first | (simp; omega) | (constructor <;> intro h <;> first | omega | (exfalso; revert h; decide)))
theorem lgc_lt (x y : Int64) : lg_cmp x y < 0 ↔ x < y := by
  unfold lg_cmp
  simp only [gt_iff_lt, Int64.lt_iff_toInt_lt, ← Int64.toInt_inj]
  repeat' split
  all_goals (first | (simp; omega) | (constructor <;> intro h <;> first | omega | (exfalso; revert h; decide) | decide))
theorem lgc_eq (x y : Int64) : lg_cmp x y = 0 ↔ x = y := by
  unfold lg_cmp
  simp only [gt_iff_lt, Int64.lt_iff_toInt_lt, ← Int64.toInt_inj]
  repeat' split
  all_goals (first | (simp; omega) | (constructor <;> intro h <;> first | omega | (exfalso; revert h; decide) | rfl))
theorem lgc_ge (x y : Int64) : 0 ≤ lg_cmp x y ↔ y ≤ x := lg_cmp_ge x y
theorem lgc_gt (x y : Int64) : 0 < lg_cmp x y ↔ y < x := by
  unfold lg_cmp
  simp only [gt_iff_lt, Int64.lt_iff_toInt_lt, ← Int64.toInt_inj]
  repeat' split
  all_goals (first | (simp; omega) | (constructor <;> intro h <;> first | omega | (exfalso; revert h; decide) | decide))
section XLCMP
variable {p : Program} {l : Launch} {e : Env} {R : Room} {s : State} {m : MethodId} {args : Array Value} {below : List Frame} {meth : Method} {c : Code} {H : Heap} {locs : List Loc} {cells slots : Nat} {Q : State → Prop}
variable {cc : ByteArray} {pc : Nat} {ls : Array Slot} {rest : List Value} {x y : Int64} {off : Int} {tgt : Nat}
theorem xlc_eq (hx : p.tables.exec = Jvm.exec) (hb : c.code = cc) (hd1 : decode cc pc = .ok (.lcmp, 1)) (hd2 : decode cc (pc + 1) = .ok (.ifCond .eq off, 3)) (ht : ((pc + 1 : Nat) : Int) + off = (tgt : Int))
    (kt : x = y → W p l e R s m args below meth c H locs cells slots Q (F0 m tgt ls rest)) (kf : ¬ x = y → W p l e R s m args below meth c H locs cells slots Q (F0 m (pc + 1 + 3) ls rest)) : W p l e R s m args below meth c H locs cells slots Q (F0 m pc ls (.long y :: .long x :: rest)) :=
  W.lcmp hx hb hd1 (lv_if_eq hx hb hd2 ht (fun h => kt ((lgc_eq x y).mp h)) (fun h => kf (fun q => h ((lgc_eq x y).mpr q))))
theorem xlc_lt (hx : p.tables.exec = Jvm.exec) (hb : c.code = cc) (hd1 : decode cc pc = .ok (.lcmp, 1)) (hd2 : decode cc (pc + 1) = .ok (.ifCond .lt off, 3)) (ht : ((pc + 1 : Nat) : Int) + off = (tgt : Int))
    (kt : x < y → W p l e R s m args below meth c H locs cells slots Q (F0 m tgt ls rest)) (kf : ¬ x < y → W p l e R s m args below meth c H locs cells slots Q (F0 m (pc + 1 + 3) ls rest)) : W p l e R s m args below meth c H locs cells slots Q (F0 m pc ls (.long y :: .long x :: rest)) :=
  W.lcmp hx hb hd1 (lv_if_lt hx hb hd2 ht (fun h => kt ((lgc_lt x y).mp h)) (fun h => kf (fun q => h ((lgc_lt x y).mpr q))))
theorem xlc_ge (hx : p.tables.exec = Jvm.exec) (hb : c.code = cc) (hd1 : decode cc pc = .ok (.lcmp, 1)) (hd2 : decode cc (pc + 1) = .ok (.ifCond .ge off, 3)) (ht : ((pc + 1 : Nat) : Int) + off = (tgt : Int))
    (kt : y ≤ x → W p l e R s m args below meth c H locs cells slots Q (F0 m tgt ls rest)) (kf : ¬ y ≤ x → W p l e R s m args below meth c H locs cells slots Q (F0 m (pc + 1 + 3) ls rest)) : W p l e R s m args below meth c H locs cells slots Q (F0 m pc ls (.long y :: .long x :: rest)) :=
  W.lcmp hx hb hd1 (lv_if_ge hx hb hd2 ht (fun h => kt ((lgc_ge x y).mp h)) (fun h => kf (fun q => h ((lgc_ge x y).mpr q))))
theorem xlc_gt (hx : p.tables.exec = Jvm.exec) (hb : c.code = cc) (hd1 : decode cc pc = .ok (.lcmp, 1)) (hd2 : decode cc (pc + 1) = .ok (.ifCond .gt off, 3)) (ht : ((pc + 1 : Nat) : Int) + off = (tgt : Int))
    (kt : y < x → W p l e R s m args below meth c H locs cells slots Q (F0 m tgt ls rest)) (kf : ¬ y < x → W p l e R s m args below meth c H locs cells slots Q (F0 m (pc + 1 + 3) ls rest)) : W p l e R s m args below meth c H locs cells slots Q (F0 m pc ls (.long y :: .long x :: rest)) :=
  W.lcmp hx hb hd1 (lv_if_gt hx hb hd2 ht (fun h => kt ((lgc_gt x y).mp h)) (fun h => kf (fun q => h ((lgc_gt x y).mpr q))))
theorem xlc_le (hx : p.tables.exec = Jvm.exec) (hb : c.code = cc) (hd1 : decode cc pc = .ok (.lcmp, 1)) (hd2 : decode cc (pc + 1) = .ok (.ifCond .le off, 3)) (ht : ((pc + 1 : Nat) : Int) + off = (tgt : Int))
    (kt : x ≤ y → W p l e R s m args below meth c H locs cells slots Q (F0 m tgt ls rest)) (kf : ¬ x ≤ y → W p l e R s m args below meth c H locs cells slots Q (F0 m (pc + 1 + 3) ls rest)) : W p l e R s m args below meth c H locs cells slots Q (F0 m pc ls (.long y :: .long x :: rest)) :=
  W.lcmp hx hb hd1 (lv_if_le hx hb hd2 ht (fun h => kt ((lgc_le x y).mp h)) (fun h => kf (fun q => h ((lgc_le x y).mpr q))))
theorem xlc_ne (hx : p.tables.exec = Jvm.exec) (hb : c.code = cc) (hd1 : decode cc pc = .ok (.lcmp, 1)) (hd2 : decode cc (pc + 1) = .ok (.ifCond .ne off, 3)) (ht : ((pc + 1 : Nat) : Int) + off = (tgt : Int))
    (kt : ¬ x = y → W p l e R s m args below meth c H locs cells slots Q (F0 m tgt ls rest)) (kf : x = y → W p l e R s m args below meth c H locs cells slots Q (F0 m (pc + 1 + 3) ls rest)) : W p l e R s m args below meth c H locs cells slots Q (F0 m pc ls (.long y :: .long x :: rest)) :=
  W.lcmp hx hb hd1 (lv_if_ne hx hb hd2 ht (fun h => kt (fun q => h ((lgc_eq x y).mpr q))) (fun h => kf ((lgc_eq x y).mp h)))
end XLCMP
/-- the two static rows -/
def sSETTING_LOW (j : Nat) : Int32 := match j with
  | 0 => 0
  | 1 => 0
  | _ => 1
def sSETTING_HIGH (j : Nat) : Int32 := match j with
  | 0 => 100
  | 1 => 5
  | 2 => 100
  | 3 => 1000000
  | _ => 1000
def StX (tL tH : Nat) (A : Nat → Prop) (U : State) (H : Heap) : Prop := va_Z "TransitMeter" "SETTING_LOW" "[I" (.ref tL) A U H ∧ va_T .int tL 5 (fun j => .int (sSETTING_LOW j)) A U H ∧ va_Z "TransitMeter" "SETTING_HIGH" "[I" (.ref tH) A U H ∧ va_T .int tH 5 (fun j => .int (sSETTING_HIGH j)) A U H
def PcS (D : va_G) (cA : Nat → ClassId) (ad : Nat → Nat) (M : Mm) (tL tH : Nat) (av : List Value) : Array Value → State → Prop := va_Pc av (fun U => Xp D true cA ad M U.heap ∧ KX D cA U ∧ StX tL tH (AX true ad) U U.heap)

/-! THE LAW: lot -/
def lotv (xs : Nat → Int32) (L j : Nat) : Int32 := if L ≤ j then (1874447181 : Int32) * (nI j + 2551) + 2341 else xs j
def PcL (b L : Nat) (xs : Nat → Int32) (av : List Value) : Array Value → State → Prop := va_Pc av (fun U => va_X b L xs U U.heap ∧ b < U.heap.size)
def QiL (r : Int32) : Array Value → State → Outcome → State → Prop := va_Qi (fun r' (_ : Unit) => r' = r) (fun _ _ => True) (fun _ => False)
section LOT
variable {p : Program} {l : Launch} {e : Env} {R : Room} {s : State} {m : MethodId} {args : Array Value} {below : List Frame} {meth : Method} {c : Code} {H : Heap} {locs : List Loc} {cells slots : Nat} {Q : State → Prop}
variable {cc : ByteArray} {pc : Nat} {ls : Array Slot} {rest st0 : List Value} {D : va_G} {cA : Nat → ClassId} {ad : Nat → Nat} {M : Mm} {A : Nat → Prop} {H0 : Heap} {a : Array Value}
theorem lotpre {b L : Nat} {xs : Nat → Int32} (hX : va_X b L xs s s.heap) (hbl : b < s.heap.size) (hbA : ¬ A b) (hS : va_S A s.heap H locs) {As : List Value} : PreS s H (PcL b L xs As) As :=
  ⟨fun _ U g mk q => ⟨q.1, va_X.moved (Vm.Alike.refl U.vm) q.2.1, q.2.2⟩, fun U hU hWm => ⟨rfl, va_X.moved hWm.alike (by rw [hU]; exact hX.kept (hS.2.1 b hbl hbA)), by rw [hU]; exact Nat.lt_of_lt_of_le hbl hS.1⟩⟩
theorem lot_i {r : Int32} (hr : va_Run p l e R s m args below meth c H locs cells slots 0 0 (F0 m pc ls st0) rest (QiL r a) (fun _ => False)) (hW : Xw D true cA ad M A H0 H locs)
    (kk : ∀ (H1 : Heap) (locs1 : List Loc), Xw D true cA ad M A H0 H1 locs1 → W p l e R s m args below meth c H1 locs1 cells slots Q (F0 m (pc + 3) ls (.int r :: rest))) : W p l e R s m args below meth c H locs cells slots Q (F0 m pc ls st0) := by
  refine va_calli hr hW.2.2 (fun q _ h => h.elim) (fun q h => h.elim) (fun r' u t H1 locs1 ht hvm hp hB hz hk hS => ?_)
  have hp : r' = r := hp
  subst hp
  subst ht
  exact kk _ locs1 ⟨hW.1.kept (fun k q hq => hk q.1 (hW.1 k q hq).lt (fun h => h)), hW.2.1, hS⟩
end LOT
theorem c_L_lot (l : Launch) (b L : Nat) (xs : Nat → Int32) (j : Nat) (hL : L ≤ 3072) (hj : j ≤ 100000) : Met l yL_lot wsL_lot ({ frames := 0, cells := 0, slots := 0, locals := 0 }) (PcL b L xs [.ref b, .int (nI j)]) (QiL (lotv xs L j)) 0 0 (fun _ => False) := by
  refine Met.ofW (cc := cL_lot) (maxL := 2) (ret := (some .int)) (by decide) rfl ?_
  intro p e s m args below meth c s₁ B hml hv
  obtain ⟨hav, hX, hbl⟩ := hv
  have hx := B.exec
  have hb := B.bytes
  have hr0 := B.returns
  have hts := atoms_spec (ws := wsL_lot) B.pre
  have hown : s.vm.findClass RL = some m.cls := findClass_of_methodNamed B.named
  have hlocks := B.notSynchronized
  have hS : va_S (fun _ : Nat => False) s.heap s.heap [] := va_S.rf
  have hl := lv_entry ([.ref b, .int (nI j)]) (n := 2) (Nat.le_of_ble_eq_true rfl)
  have hef := lg_entry_eq m ([.ref b, .int (nI j)]) 2
  rw [← hav] at hef
  rw [hef]
  clear hef
  generalize (lg_sl ([.ref b, .int (nI j)]) ++ List.replicate (2 - (lg_sl ([.ref b, .int (nI j)])).length) Slot.unset).toArray = ls at hl ⊢
  have hl : lv_has ls 2 [(0, .ref b), (1, .int (nI j))] := hl
  refine lv_iload_n hx hb dL_lot_0 rfl (lv_at hl 1 rfl) ?_
  refine lv_aload_n hx hb dL_lot_1 rfl (lv_at hl 0 rfl) ?_
  refine va_slen hx hb hX hbl (fun h => h) hS dL_lot_2 ?_
  refine lv_icmp_ge (tgt := 12) hx hb dL_lot_3 (by decide) (fun c1 => ?_) (fun c1 => ?_)
  · have hc : L ≤ j := by
      rcases Nat.lt_or_ge j L with q | q
      · exact absurd c1 (nI_ge q (by omega))
      · exact q
    have e : lotv xs L j = (1874447181 : Int32) * (nI j + 2551) + 2341 := if_pos hc
    rw [e]
    refine lv_ldc (v := (1874447181 : Int32)) hx hb hown (hts _ (wm 1 rfl)) dL_lot_12 ?_
    refine lv_iload_n hx hb dL_lot_14 rfl (lv_at hl 1 rfl) ?_
    refine lv_sipush (v := (2551 : Int32)) hx hb dL_lot_15 (by decide) ?_
    refine lv_iadd hx hb dL_lot_18 ?_
    refine lv_imul hx hb dL_lot_19 ?_
    refine lv_sipush (v := (2341 : Int32)) hx hb dL_lot_20 (by decide) ?_
    refine lv_iadd hx hb dL_lot_23 ?_
    exact W.iret hx hb hr0 (fun t ht _ => ⟨⟨_, (), rfl, rfl, trivial⟩, hS.F ht⟩) hS.2.2 dL_lot_24 hlocks
  · have hc : j < L := by
      rcases Nat.lt_or_ge j L with q | q
      · exact q
      · exact absurd (nI_le q (by omega)) c1
    have e : lotv xs L j = xs j := if_neg (by omega)
    rw [e]
    refine lv_aload_n hx hb dL_lot_6 rfl (lv_at hl 0 rfl) ?_
    refine lv_iload_n hx hb dL_lot_7 rfl (lv_at hl 1 rfl) ?_
    refine va_sld hx hb hX hbl (fun h => h) hS (vp_in_nI hc (by omega)) dL_lot_8 ?_
    rw [nI_clamp (show j < 2 ^ 31 by omega)]
    refine lv_goto (tgt := 24) hx hb dL_lot_9 (by decide) ?_
    exact W.iret hx hb hr0 (fun t ht _ => ⟨⟨_, (), rfl, rfl, trivial⟩, hS.F ht⟩) hS.2.2 dL_lot_24 hlocks

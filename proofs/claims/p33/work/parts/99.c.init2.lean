/-! CONSTRUCTORS, 4: a state, the history -/
set_option maxHeartbeats 4000000 in
set_option maxRecDepth 100000 in
theorem c_X8_init (l : Launch) (D : va_G) (cA : Nat → ClassId) (a sz : Nat) : Met l yX8_init wsX8_init ({ frames := 3, cells := 27, slots := 190, locals := 53 }) (ic_P D cA 8 [.null, .int 0, .null, .null, .int 0, .null, .int 0, .int 0, .long 0, .long 0] a sz) (ic_Q D a sz (fun u : Nat → Nat => u 0 = a) (fun u => ic_B cA u)) 27 190 (ic_A a sz) := by
  refine Met.ofW (cc := cX8_init) (maxL := 2) (ret := none) (by decide) rfl ?_
  intro p e s m args below meth c s₁ B hml hv
  obtain ⟨rfl, hsz, hP, hK⟩ := hv
  have hx := B.exec
  have hb := B.bytes
  have hr0 := B.returns
  have hts := atoms_spec (ws := wsX8_init) B.pre
  have hown : s.vm.findClass RX8 = some m.cls := findClass_of_methodNamed B.named
  have hlocks := B.notSynchronized
  have hin : meth.name = "<init>" := (name_of_methodNamed B.named B.method).1
  subst hsz
  have hP : va_P D vwCl [(a, .inr (8, [.null, .int 0, .null, .null, .int 0, .null, .int 0, .int 0, .long 0, .long 0]))] s.heap := hP
  have hW := ic_start hP
  have hA : ∀ q : Nat, s.heap.size ≤ q → ic_A a s.heap.size q := fun q h => Or.inr h
  have hi3 : ∀ w ∈ wsX30, w ∈ wsX8_init := fun w h => List.mem_cons_of_mem _ (List.mem_append_left _ (List.mem_append_left _ (List.mem_append_right _ h)))
  have hi4 : ∀ w ∈ wsX40, w ∈ wsX8_init := fun w h => List.mem_cons_of_mem _ (List.mem_append_left _ (List.mem_append_left _ (List.mem_append_left _ (List.mem_append_left _ (List.mem_append_right _ h)))))
  have hi6 : ∀ w ∈ wsX60, w ∈ wsX8_init := fun w h => List.mem_cons_of_mem _ (List.mem_append_left _ (List.mem_append_left _ (List.mem_append_left _ (List.mem_append_right _ h))))
  have hi8 : ∀ w ∈ wsX80, w ∈ wsX8_init := fun w h => List.mem_cons_of_mem _ (List.mem_append_left _ (List.mem_append_left _ (List.mem_append_left _ (List.mem_append_left _ (List.mem_append_left _ (List.mem_append_right _ h))))))
  have hl := lv_entry ([.ref a]) (n := 2) (Nat.le_of_ble_eq_true rfl)
  rw [lg_entry_eq]
  generalize (lg_sl ([.ref a]) ++ List.replicate (2 - (lg_sl ([.ref a])).length) Slot.unset).toArray = ls at hl ⊢
  have hl : lv_has ls 2 [(0, .ref a)] := hl
  refine lv_aload_n hx hb dX8_init_0 rfl (lv_at hl 0 rfl) ?_
  refine W.objInit hx hb hown (hts _ (wm 1 rfl)) (hts _ (wm 2 rfl)) (hts _ (wm 3 rfl)) rfl (by rw [hml]; exact hl.1) rfl dX8_init_1 (Nat.le_of_ble_eq_true rfl) (Nat.le_of_ble_eq_true rfl) ?_
  refine W.eq (g2 := F0 m 4 ls []) rfl ?_
  refine lv_aload_n hx hb dX8_init_4 rfl (lv_at hl 0 rfl) ?_
  refine lv_iconst (v := (4 : Int32)) hx hb dX8_init_5 (by decide) ?_
  refine ic_newq (C := "TransitMeter$Path") hx hb hown (hts _ (wm 4 rfl)) hK.2.1 hK.1 3 rfl hW hA (by decide) (show Int32.toNatClampNeg 4 = 4 by decide) (Nat.le_of_ble_eq_true rfl) (Nat.le_of_ble_eq_true rfl) (Nat.le_of_ble_eq_true rfl) dX8_init_6 (fun q1 H hW => ?_)
  have hW : ic_W D ([(a, .inr (8, [.null, .int 0, .null, .null, .int 0, .null, .int 0, .int 0, .long 0, .long 0])), (q1, .inl (cA 3, 4, .inr (.inr (.inr (.inr (fun _ => none))))))]) (ic_A a s.heap.size) s.heap H _ := hW
  refine ic_putF (ci := 8) (v := .ref q1) (C := RX8) (T := TX8) (N := 10) hx hb hts hi8 tyX8 tyX8_ok nmX8 hown hK.1 hW 0 rfl rfl 0 (by decide) (hts _ (wm 5 rfl)) rfl hin rfl (tyX8_ok 0 (by decide)) rfl rfl (Nat.le_of_ble_eq_true rfl) dX8_init_9 (fun H locs hW => ?_)
  have hW : ic_W D ([(a, .inr (8, [.ref q1, .int 0, .null, .null, .int 0, .null, .int 0, .int 0, .long 0, .long 0])), (q1, .inl (cA 3, 4, .inr (.inr (.inr (.inr (fun _ => none))))))]) (ic_A a s.heap.size) s.heap H _ := hW
  refine lv_aload_n hx hb dX8_init_12 rfl (lv_at hl 0 rfl) ?_
  refine ic_new (ci := 4) (fs := [.null, .null, .int 0]) (C := RX4) (T := TX4) (N := 3) hx hb hts hi4 tyX4 tyX4_ok hown (hts _ (wm 6 rfl)) (hts _ (wm 7 rfl)) (hts _ (wm 8 rfl)) hK.1 hW hA rfl (fun j hj => by rcases (show j = 0 ∨ j = 1 ∨ j = 2 by omega) with rfl | rfl | rfl <;> rfl) (Nat.le_of_ble_eq_true rfl) (Nat.le_of_ble_eq_true rfl) dX8_init_13 (fun q2 H hW => ?_)
  refine lv_dup hx hb dX8_init_16 rfl ?_
  refine ic_call (va_runIN (As := []) (rest := [.ref q2, .ref a]) ⟨hx, hb, hml, hown, hts⟩ (c_X4_init l D cA q2 H.size) ⟨va_cnB 0 hts gX8_init_X4_init_n19 rfl rfl rfl hK.1.2.1 (hts _ (wm 8 rfl)) (by decide +kernel) ⟨(Nat.le_of_ble_eq_true rfl), (Nat.le_of_ble_eq_true rfl)⟩, rfl, (hts _ (wm 18 rfl))⟩ (ic_pre hK hW) rfl rfl hl.1 rfl (lv_room (Nat.le_of_ble_eq_true rfl)) dX8_init_17 ⟨(Nat.le_of_ble_eq_true rfl), (Nat.le_of_ble_eq_true rfl)⟩) hW hA (fun u3 H locs hu3 hW1 => ?_)
  have hW := hW1
  obtain ⟨u3_0, u3_1⟩ := u3
  have hW : ic_W D ([(a, .inr (8, [.ref q1, .int 0, .null, .null, .int 0, .null, .int 0, .int 0, .long 0, .long 0])), (q1, .inl (cA 3, 4, .inr (.inr (.inr (.inr (fun _ => none)))))), (q2, .inr (4, [.ref u3_0, .ref u3_1, .int 0])), (u3_0, .inl (cA 0, 6, .inl (fun _ => 0))), (u3_1, .inl (cA 0, 6, .inl (fun _ => 0)))]) (ic_A a s.heap.size) s.heap H _ := hW
  refine ic_putF (ci := 8) (v := .ref q2) (C := RX8) (T := TX8) (N := 10) hx hb hts hi8 tyX8 tyX8_ok nmX8 hown hK.1 hW 0 rfl rfl 2 (by decide) (hts _ (wm 9 rfl)) rfl hin rfl (tyX8_ok 2 (by decide)) rfl rfl (Nat.le_of_ble_eq_true rfl) dX8_init_20 (fun H locs hW => ?_)
  have hW : ic_W D ([(a, .inr (8, [.ref q1, .int 0, .ref q2, .null, .int 0, .null, .int 0, .int 0, .long 0, .long 0])), (q1, .inl (cA 3, 4, .inr (.inr (.inr (.inr (fun _ => none)))))), (q2, .inr (4, [.ref u3_0, .ref u3_1, .int 0])), (u3_0, .inl (cA 0, 6, .inl (fun _ => 0))), (u3_1, .inl (cA 0, 6, .inl (fun _ => 0)))]) (ic_A a s.heap.size) s.heap H _ := hW
  refine lv_aload_n hx hb dX8_init_23 rfl (lv_at hl 0 rfl) ?_
  refine lv_iconst (v := (5 : Int32)) hx hb dX8_init_24 (by decide) ?_
  refine ic_newa (atype := .int) (ty := .int) (a0 := (5, .inl (fun _ => 0))) hx hb (hts _ (wm 10 rfl)) rfl hK.1 0 rfl hW hA (fun _ => rfl) (by decide) (show Int32.toNatClampNeg 5 = 5 by decide) (Nat.le_of_ble_eq_true rfl) (Nat.le_of_ble_eq_true rfl) (Nat.le_of_ble_eq_true rfl) dX8_init_25 (fun q4 H hW => ?_)
  have hW : ic_W D ([(a, .inr (8, [.ref q1, .int 0, .ref q2, .null, .int 0, .null, .int 0, .int 0, .long 0, .long 0])), (q1, .inl (cA 3, 4, .inr (.inr (.inr (.inr (fun _ => none)))))), (q2, .inr (4, [.ref u3_0, .ref u3_1, .int 0])), (u3_0, .inl (cA 0, 6, .inl (fun _ => 0))), (u3_1, .inl (cA 0, 6, .inl (fun _ => 0))), (q4, .inl (cA 0, 5, .inl (fun _ => 0)))]) (ic_A a s.heap.size) s.heap H _ := hW
  refine lv_dup hx hb dX8_init_27 rfl ?_
  refine lv_iconst (v := (0 : Int32)) hx hb dX8_init_28 (by decide) ?_
  refine lv_bipush (v := (40 : Int32)) hx hb dX8_init_29 (by decide) ?_
  refine ic_iast hx hb hK.1 hW 5 rfl (by decide) dX8_init_31 (fun H locs hW => ?_)
  have hW : ic_W D ([(a, .inr (8, [.ref q1, .int 0, .ref q2, .null, .int 0, .null, .int 0, .int 0, .long 0, .long 0])), (q1, .inl (cA 3, 4, .inr (.inr (.inr (.inr (fun _ => none)))))), (q2, .inr (4, [.ref u3_0, .ref u3_1, .int 0])), (u3_0, .inl (cA 0, 6, .inl (fun _ => 0))), (u3_1, .inl (cA 0, 6, .inl (fun _ => 0))), (q4, .inl (cA 0, 5, .inl (upd (fun _ => 0) 0 (40 : Int32))))]) (ic_A a s.heap.size) s.heap H _ := hW
  refine lv_dup hx hb dX8_init_32 rfl ?_
  refine lv_iconst (v := (1 : Int32)) hx hb dX8_init_33 (by decide) ?_
  refine lv_iconst (v := (2 : Int32)) hx hb dX8_init_34 (by decide) ?_
  refine ic_iast hx hb hK.1 hW 5 rfl (by decide) dX8_init_35 (fun H locs hW => ?_)
  have hW : ic_W D ([(a, .inr (8, [.ref q1, .int 0, .ref q2, .null, .int 0, .null, .int 0, .int 0, .long 0, .long 0])), (q1, .inl (cA 3, 4, .inr (.inr (.inr (.inr (fun _ => none)))))), (q2, .inr (4, [.ref u3_0, .ref u3_1, .int 0])), (u3_0, .inl (cA 0, 6, .inl (fun _ => 0))), (u3_1, .inl (cA 0, 6, .inl (fun _ => 0))), (q4, .inl (cA 0, 5, .inl (upd (upd (fun _ => 0) 0 (40 : Int32)) 1 (2 : Int32))))]) (ic_A a s.heap.size) s.heap H _ := hW
  refine lv_dup hx hb dX8_init_36 rfl ?_
  refine lv_iconst (v := (2 : Int32)) hx hb dX8_init_37 (by decide) ?_
  refine lv_bipush (v := (60 : Int32)) hx hb dX8_init_38 (by decide) ?_
  refine ic_iast hx hb hK.1 hW 5 rfl (by decide) dX8_init_40 (fun H locs hW => ?_)
  have hW : ic_W D ([(a, .inr (8, [.ref q1, .int 0, .ref q2, .null, .int 0, .null, .int 0, .int 0, .long 0, .long 0])), (q1, .inl (cA 3, 4, .inr (.inr (.inr (.inr (fun _ => none)))))), (q2, .inr (4, [.ref u3_0, .ref u3_1, .int 0])), (u3_0, .inl (cA 0, 6, .inl (fun _ => 0))), (u3_1, .inl (cA 0, 6, .inl (fun _ => 0))), (q4, .inl (cA 0, 5, .inl (upd (upd (upd (fun _ => 0) 0 (40 : Int32)) 1 (2 : Int32)) 2 (60 : Int32))))]) (ic_A a s.heap.size) s.heap H _ := hW
  refine lv_dup hx hb dX8_init_41 rfl ?_
  refine lv_iconst (v := (3 : Int32)) hx hb dX8_init_42 (by decide) ?_
  refine lv_sipush (v := (10000 : Int32)) hx hb dX8_init_43 (by decide) ?_
  refine ic_iast hx hb hK.1 hW 5 rfl (by decide) dX8_init_46 (fun H locs hW => ?_)
  have hW : ic_W D ([(a, .inr (8, [.ref q1, .int 0, .ref q2, .null, .int 0, .null, .int 0, .int 0, .long 0, .long 0])), (q1, .inl (cA 3, 4, .inr (.inr (.inr (.inr (fun _ => none)))))), (q2, .inr (4, [.ref u3_0, .ref u3_1, .int 0])), (u3_0, .inl (cA 0, 6, .inl (fun _ => 0))), (u3_1, .inl (cA 0, 6, .inl (fun _ => 0))), (q4, .inl (cA 0, 5, .inl (upd (upd (upd (upd (fun _ => 0) 0 (40 : Int32)) 1 (2 : Int32)) 2 (60 : Int32)) 3 (10000 : Int32))))]) (ic_A a s.heap.size) s.heap H _ := hW
  refine lv_dup hx hb dX8_init_47 rfl ?_
  refine lv_iconst (v := (4 : Int32)) hx hb dX8_init_48 (by decide) ?_
  refine lv_bipush (v := (100 : Int32)) hx hb dX8_init_49 (by decide) ?_
  refine ic_iast hx hb hK.1 hW 5 rfl (by decide) dX8_init_51 (fun H locs hW => ?_)
  have hW : ic_W D ([(a, .inr (8, [.ref q1, .int 0, .ref q2, .null, .int 0, .null, .int 0, .int 0, .long 0, .long 0])), (q1, .inl (cA 3, 4, .inr (.inr (.inr (.inr (fun _ => none)))))), (q2, .inr (4, [.ref u3_0, .ref u3_1, .int 0])), (u3_0, .inl (cA 0, 6, .inl (fun _ => 0))), (u3_1, .inl (cA 0, 6, .inl (fun _ => 0))), (q4, .inl (cA 0, 5, .inl (upd (upd (upd (upd (upd (fun _ => 0) 0 (40 : Int32)) 1 (2 : Int32)) 2 (60 : Int32)) 3 (10000 : Int32)) 4 (100 : Int32))))]) (ic_A a s.heap.size) s.heap H _ := hW
  refine ic_putF (ci := 8) (v := .ref q4) (C := RX8) (T := TX8) (N := 10) hx hb hts hi8 tyX8 tyX8_ok nmX8 hown hK.1 hW 0 rfl rfl 3 (by decide) (hts _ (wm 11 rfl)) rfl hin rfl (tyX8_ok 3 (by decide)) rfl rfl (Nat.le_of_ble_eq_true rfl) dX8_init_52 (fun H locs hW => ?_)
  have hW : ic_W D ([(a, .inr (8, [.ref q1, .int 0, .ref q2, .ref q4, .int 0, .null, .int 0, .int 0, .long 0, .long 0])), (q1, .inl (cA 3, 4, .inr (.inr (.inr (.inr (fun _ => none)))))), (q2, .inr (4, [.ref u3_0, .ref u3_1, .int 0])), (u3_0, .inl (cA 0, 6, .inl (fun _ => 0))), (u3_1, .inl (cA 0, 6, .inl (fun _ => 0))), (q4, .inl (cA 0, 5, .inl (upd (upd (upd (upd (upd (fun _ => 0) 0 (40 : Int32)) 1 (2 : Int32)) 2 (60 : Int32)) 3 (10000 : Int32)) 4 (100 : Int32))))]) (ic_A a s.heap.size) s.heap H _ := hW
  refine lv_aload_n hx hb dX8_init_55 rfl (lv_at hl 0 rfl) ?_
  refine ic_new (ci := 6) (fs := [.null, .int 0]) (C := RX6) (T := TX6) (N := 2) hx hb hts hi6 tyX6 tyX6_ok hown (hts _ (wm 12 rfl)) (hts _ (wm 13 rfl)) (hts _ (wm 14 rfl)) hK.1 hW hA rfl (fun j hj => by rcases (show j = 0 ∨ j = 1 by omega) with rfl | rfl <;> rfl) (Nat.le_of_ble_eq_true rfl) (Nat.le_of_ble_eq_true rfl) dX8_init_56 (fun q5 H hW => ?_)
  refine lv_dup hx hb dX8_init_59 rfl ?_
  refine ic_call (va_runI (As := []) (rest := [.ref q5, .ref a]) ⟨hx, hb, hml, hown, hts⟩ (c_X6_init l D cA q5 H.size) (cwI 0 hts gX8_init_X6_init rfl rfl rfl (hts _ (wm 14 rfl)) (hts _ (wm 23 rfl)) (hts _ (wm 24 rfl)) rfl (by decide +kernel) ⟨(Nat.le_of_ble_eq_true rfl), (Nat.le_of_ble_eq_true rfl)⟩) (ic_pre hK hW) rfl rfl hl.1 rfl (lv_room (Nat.le_of_ble_eq_true rfl)) dX8_init_60 ⟨(Nat.le_of_ble_eq_true rfl), (Nat.le_of_ble_eq_true rfl)⟩) hW hA (fun u6 H locs hu6 hW1 => ?_)
  have hW := hW1
  obtain ⟨u6_0, rs⟩ := u6
  have hW : ic_W D (([(a, .inr (8, [.ref q1, .int 0, .ref q2, .ref q4, .int 0, .null, .int 0, .int 0, .long 0, .long 0])), (q1, .inl (cA 3, 4, .inr (.inr (.inr (.inr (fun _ => none)))))), (q2, .inr (4, [.ref u3_0, .ref u3_1, .int 0])), (u3_0, .inl (cA 0, 6, .inl (fun _ => 0))), (u3_1, .inl (cA 0, 6, .inl (fun _ => 0))), (q4, .inl (cA 0, 5, .inl (upd (upd (upd (upd (upd (fun _ => 0) 0 (40 : Int32)) 1 (2 : Int32)) 2 (60 : Int32)) 3 (10000 : Int32)) 4 (100 : Int32)))), (q5, .inr (6, [.ref u6_0, .int 0])), (u6_0, .inl (cA 4, 12, .inr (.inr (.inr (.inr (ic_rf (fun z : Nat => z) rs))))))] ++ rs.map (fun z : Nat => ((z, .inr (5, [.int 0, .int 0, .int 0, .int 0, .int 0, .int 0])) : Nat × va_E)))) (ic_A a s.heap.size) s.heap H _ := hW
  refine ic_putF (ci := 8) (v := .ref q5) (C := RX8) (T := TX8) (N := 10) hx hb hts hi8 tyX8 tyX8_ok nmX8 hown hK.1 hW 0 rfl rfl 5 (by decide) (hts _ (wm 15 rfl)) rfl hin rfl (tyX8_ok 5 (by decide)) rfl rfl (Nat.le_of_ble_eq_true rfl) dX8_init_63 (fun H locs hW => ?_)
  have hW : ic_W D (([(a, .inr (8, [.ref q1, .int 0, .ref q2, .ref q4, .int 0, .ref q5, .int 0, .int 0, .long 0, .long 0])), (q1, .inl (cA 3, 4, .inr (.inr (.inr (.inr (fun _ => none)))))), (q2, .inr (4, [.ref u3_0, .ref u3_1, .int 0])), (u3_0, .inl (cA 0, 6, .inl (fun _ => 0))), (u3_1, .inl (cA 0, 6, .inl (fun _ => 0))), (q4, .inl (cA 0, 5, .inl (upd (upd (upd (upd (upd (fun _ => 0) 0 (40 : Int32)) 1 (2 : Int32)) 2 (60 : Int32)) 3 (10000 : Int32)) 4 (100 : Int32)))), (q5, .inr (6, [.ref u6_0, .int 0])), (u6_0, .inl (cA 4, 12, .inr (.inr (.inr (.inr (ic_rf (fun z : Nat => z) rs))))))] ++ rs.map (fun z : Nat => ((z, .inr (5, [.int 0, .int 0, .int 0, .int 0, .int 0, .int 0])) : Nat × va_E)))) (ic_A a s.heap.size) s.heap H _ := hW
  refine lv_iconst (v := (0 : Int32)) hx hb dX8_init_66 (by decide) ?_
  refine lv_istore_n (lv' := [(1, .int (0 : Int32)), (0, .ref a)]) hx hb dX8_init_67 rfl hl (by decide) rfl (fun ls hl => ?_)
  have hL : ∀ (n : Nat) (zs : List (Nat × Nat)) (H : Heap) (locs : List Loc) (ls : Array Slot), zs.length + n = 4 → ic_W D (([(a, .inr (8, [.ref q1, .int 0, .ref q2, .ref q4, .int 0, .ref q5, .int 0, .int 0, .long 0, .long 0])), (q1, .inl (cA 3, 4, .inr (.inr (.inr (.inr (ic_rf (fun z : Nat × Nat => z.1) zs)))))), (q2, .inr (4, [.ref u3_0, .ref u3_1, .int 0])), (u3_0, .inl (cA 0, 6, .inl (fun _ => 0))), (u3_1, .inl (cA 0, 6, .inl (fun _ => 0))), (q4, .inl (cA 0, 5, .inl (upd (upd (upd (upd (upd (fun _ => 0) 0 (40 : Int32)) 1 (2 : Int32)) 2 (60 : Int32)) 3 (10000 : Int32)) 4 (100 : Int32)))), (q5, .inr (6, [.ref u6_0, .int 0])), (u6_0, .inl (cA 4, 12, .inr (.inr (.inr (.inr (ic_rf (fun z : Nat => z) rs))))))] ++ rs.map (fun z : Nat => ((z, .inr (5, [.int 0, .int 0, .int 0, .int 0, .int 0, .int 0])) : Nat × va_E))) ++ zs.flatMap (fun z : Nat × Nat => ([(z.1, .inr (3, [.int 0, .int 0, .int 0, .int 0, .int 0, .int 0, .int 0, .int 0, .int 0, .int 0, .int (-2000000005), .int (-2000000005), .int 0, .int 0, .int 0, .ref z.2])), (z.2, .inr (7, [.int 0, .int 0, .int 0, .int 0]))] : va_W))) (ic_A a s.heap.size) s.heap H locs → lv_has ls 2 [(1, .int (nI zs.length)), (0, .ref a)] → W p l e (headSpec wsX8_init { frames := 3, cells := 27, slots := 190, locals := 53 }).room s m ([.ref a] : List Value).toArray below meth c H locs (19 + zs.length * 2) (110 + zs.length * 20) (MQ below (ic_Q D a s.heap.size (fun u : Nat → Nat => u 0 = a) (fun u => ic_B cA u)) ([.ref a] : List Value).toArray s 27 190 (ic_A a s.heap.size)) (F0 m 68 ls []) := by
    intro n
    induction n with
    | zero =>
      intro zs H locs ls hn hW hl
      refine lv_iload_n hx hb dX8_init_68 rfl (lv_at hl 0 rfl) ?_
      refine lv_iconst (v := (4 : Int32)) hx hb dX8_init_69 (by decide) ?_
      refine lv_icmp_ge (tgt := 92) hx hb dX8_init_70 (by decide) (fun _ => ?_) (fun c1 => absurd (show (4 : Int32) ≤ nI zs.length by rw [show zs.length = 4 by omega]; decide) c1)
      refine W.widen (k := 27) (n := 190) (by omega) (by omega) ?_
      obtain ⟨ad, h0, hW⟩ := ic_state (by assumption) (show zs.length = 4 by omega) hW
      exact ic_vret hx hb hr0 hlocks ad h0 hW dX8_init_92
    | succ n ih =>
      intro zs H locs ls hn hW hl
      refine lv_iload_n hx hb dX8_init_68 rfl (lv_at hl 0 rfl) ?_
      refine lv_iconst (v := (4 : Int32)) hx hb dX8_init_69 (by decide) ?_
      refine lv_icmp_ge (tgt := 92) hx hb dX8_init_70 (by decide) (fun c1 => absurd c1 (show ¬ (4 : Int32) ≤ nI zs.length from nI_ge (b := 4) (by omega) (by decide))) (fun _ => ?_)
      refine lv_aload_n hx hb dX8_init_73 rfl (lv_at hl 1 rfl) ?_
      refine ic_get (C := RX8) (T := TX8) (N := 10) hx hb hts hi8 hown hK.1 hW 0 rfl rfl 0 (by decide) (hts _ (wm 5 rfl)) (v := .ref q1) rfl dX8_init_74 ?_
      refine lv_iload_n hx hb dX8_init_77 rfl (lv_at hl 0 rfl) ?_
      refine ic_new (ci := 3) (fs := [.int 0, .int 0, .int 0, .int 0, .int 0, .int 0, .int 0, .int 0, .int 0, .int 0, .int 0, .int 0, .int 0, .int 0, .int 0, .null]) (C := RX3) (T := TX3) (N := 16) hx hb hts hi3 tyX3 tyX3_ok hown (hts _ (wm 4 rfl)) (hts _ (wm 16 rfl)) (hts _ (wm 17 rfl)) hK.1 hW hA rfl (fun j hj => by rcases (show j = 0 ∨ j = 1 ∨ j = 2 ∨ j = 3 ∨ j = 4 ∨ j = 5 ∨ j = 6 ∨ j = 7 ∨ j = 8 ∨ j = 9 ∨ j = 10 ∨ j = 11 ∨ j = 12 ∨ j = 13 ∨ j = 14 ∨ j = 15 by omega) with rfl | rfl | rfl | rfl | rfl | rfl | rfl | rfl | rfl | rfl | rfl | rfl | rfl | rfl | rfl | rfl <;> rfl) (by show _ ≤ 27; omega) (by show _ ≤ 190; omega) dX8_init_78 (fun q7 H hW => ?_)
      refine lv_dup hx hb dX8_init_81 rfl ?_
      refine ic_call (va_runIN (As := []) (rest := [.ref q7, .int (nI zs.length), .ref q1]) ⟨hx, hb, hml, hown, hts⟩ (c_X3_init l D cA q7 H.size) ⟨va_cnB 0 hts gX8_init_X3_init_n35 rfl rfl rfl hK.1.2.2.2.1 (hts _ (wm 17 rfl)) (by decide +kernel) ⟨(Nat.le_of_ble_eq_true rfl), (Nat.le_of_ble_eq_true rfl)⟩, rfl, (hts _ (wm 34 rfl))⟩ (ic_pre hK hW) rfl rfl hl.1 rfl (lv_room (Nat.le_of_ble_eq_true rfl)) dX8_init_82 ⟨(by show _ ≤ 27; omega), (by show _ ≤ 190; omega)⟩) hW hA (fun u H locs hu hW1 => ?_)
      have hW := hW1
      refine ic_aast (v := q7) (r := (RX3, TX3, 16)) hx hb hK.1 hW 1 3 _ 3 rfl rfl (ic_last) rfl (inb_n (show zs.length < 4 by omega) (by decide)) dX8_init_85 (fun H locs hW => ?_)
      have e1 : va_up (ic_rf (fun z : Nat × Nat => z.1) zs) (ix (nI zs.length)) (some q7) = ic_rf (fun z : Nat × Nat => z.1) (zs ++ [(q7, u)]) := ic_up (fun z : Nat × Nat => z.1) zs (q7, u) (ix_n (by omega))
      have hW : ic_W D ((([(a, .inr (8, [.ref q1, .int 0, .ref q2, .ref q4, .int 0, .ref q5, .int 0, .int 0, .long 0, .long 0])), (q1, .inl (cA 3, 4, .inr (.inr (.inr (.inr (va_up (ic_rf (fun z : Nat × Nat => z.1) zs) (ix (nI zs.length)) (some q7))))))), (q2, .inr (4, [.ref u3_0, .ref u3_1, .int 0])), (u3_0, .inl (cA 0, 6, .inl (fun _ => 0))), (u3_1, .inl (cA 0, 6, .inl (fun _ => 0))), (q4, .inl (cA 0, 5, .inl (upd (upd (upd (upd (upd (fun _ => 0) 0 (40 : Int32)) 1 (2 : Int32)) 2 (60 : Int32)) 3 (10000 : Int32)) 4 (100 : Int32)))), (q5, .inr (6, [.ref u6_0, .int 0])), (u6_0, .inl (cA 4, 12, .inr (.inr (.inr (.inr (ic_rf (fun z : Nat => z) rs))))))] ++ rs.map (fun z : Nat => ((z, .inr (5, [.int 0, .int 0, .int 0, .int 0, .int 0, .int 0])) : Nat × va_E))) ++ zs.flatMap (fun z : Nat × Nat => ([(z.1, .inr (3, [.int 0, .int 0, .int 0, .int 0, .int 0, .int 0, .int 0, .int 0, .int 0, .int 0, .int (-2000000005), .int (-2000000005), .int 0, .int 0, .int 0, .ref z.2])), (z.2, .inr (7, [.int 0, .int 0, .int 0, .int 0]))] : va_W))) ++ [(q7, .inr (3, [.int 0, .int 0, .int 0, .int 0, .int 0, .int 0, .int 0, .int 0, .int 0, .int 0, .int (-2000000005), .int (-2000000005), .int 0, .int 0, .int 0, .ref u])), (u, .inr (7, [.int 0, .int 0, .int 0, .int 0]))]) (ic_A a s.heap.size) s.heap H _ := hW
      rw [e1] at hW
      have hW := hW.asc
      rw [show zs.flatMap (fun z : Nat × Nat => ([(z.1, .inr (3, [.int 0, .int 0, .int 0, .int 0, .int 0, .int 0, .int 0, .int 0, .int 0, .int 0, .int (-2000000005), .int (-2000000005), .int 0, .int 0, .int 0, .ref z.2])), (z.2, .inr (7, [.int 0, .int 0, .int 0, .int 0]))] : va_W)) ++ [(q7, .inr (3, [.int 0, .int 0, .int 0, .int 0, .int 0, .int 0, .int 0, .int 0, .int 0, .int 0, .int (-2000000005), .int (-2000000005), .int 0, .int 0, .int 0, .ref u])), (u, .inr (7, [.int 0, .int 0, .int 0, .int 0]))] = (zs ++ [(q7, u)]).flatMap (fun z : Nat × Nat => ([(z.1, .inr (3, [.int 0, .int 0, .int 0, .int 0, .int 0, .int 0, .int 0, .int 0, .int 0, .int 0, .int (-2000000005), .int (-2000000005), .int 0, .int 0, .int 0, .ref z.2])), (z.2, .inr (7, [.int 0, .int 0, .int 0, .int 0]))] : va_W)) from by rw [List.flatMap_append]; rfl] at hW
      obtain ⟨v, ev⟩ : ∃ y : Int32, y = nI zs.length + 1 := ⟨_, rfl⟩
      refine lv_iinc (v := v) (lv' := [(1, .int v), (0, .ref a)]) hx hb dX8_init_86 hl (k := 0) rfl (by rw [ev]; rfl) (by decide) rfl (fun ls hl => ?_)
      rw [ev, ← nI_succ] at hl
      refine lv_goto (tgt := 68) hx hb dX8_init_89 (by decide) ?_
      refine W.widen (k := 19 + (zs ++ [(q7, u)]).length * 2) (n := 110 + (zs ++ [(q7, u)]).length * 20) (by rw [List.length_append]; show _ ≤ _ + (zs.length + 1) * _; omega) (by rw [List.length_append]; show _ ≤ _ + (zs.length + 1) * _; omega) ?_
      exact ih (zs ++ [(q7, u)]) _ _ _ (by rw [List.length_append]; show zs.length + 1 + n = 4; omega) hW (by rw [List.length_append]; exact hl)
  refine W.widen (k := 19 + ([] : List (Nat × Nat)).length * 2) (n := 110 + ([] : List (Nat × Nat)).length * 20) (Nat.le_of_ble_eq_true rfl) (Nat.le_of_ble_eq_true rfl) ?_
  refine hL 4 [] _ _ _ rfl ?_ hl
  show ic_W D (([(a, .inr (8, [.ref q1, .int 0, .ref q2, .ref q4, .int 0, .ref q5, .int 0, .int 0, .long 0, .long 0])), (q1, .inl (cA 3, 4, .inr (.inr (.inr (.inr (ic_rf (fun z : Nat × Nat => z.1) ([] : List (Nat × Nat)))))))), (q2, .inr (4, [.ref u3_0, .ref u3_1, .int 0])), (u3_0, .inl (cA 0, 6, .inl (fun _ => 0))), (u3_1, .inl (cA 0, 6, .inl (fun _ => 0))), (q4, .inl (cA 0, 5, .inl (upd (upd (upd (upd (upd (fun _ => 0) 0 (40 : Int32)) 1 (2 : Int32)) 2 (60 : Int32)) 3 (10000 : Int32)) 4 (100 : Int32)))), (q5, .inr (6, [.ref u6_0, .int 0])), (u6_0, .inl (cA 4, 12, .inr (.inr (.inr (.inr (ic_rf (fun z : Nat => z) rs))))))] ++ rs.map (fun z : Nat => ((z, .inr (5, [.int 0, .int 0, .int 0, .int 0, .int 0, .int 0])) : Nat × va_E))) ++ ([] : List (Nat × Nat)).flatMap (fun z : Nat × Nat => ([(z.1, .inr (3, [.int 0, .int 0, .int 0, .int 0, .int 0, .int 0, .int 0, .int 0, .int 0, .int 0, .int (-2000000005), .int (-2000000005), .int 0, .int 0, .int 0, .ref z.2])), (z.2, .inr (7, [.int 0, .int 0, .int 0, .int 0]))] : va_W))) (ic_A a s.heap.size) s.heap _ _
  rw [← ic_rf0 (fun z : Nat × Nat => z.1)]
  have e0 : ([] : List (Nat × Nat)).flatMap (fun z : Nat × Nat => ([(z.1, .inr (3, [.int 0, .int 0, .int 0, .int 0, .int 0, .int 0, .int 0, .int 0, .int 0, .int 0, .int (-2000000005), .int (-2000000005), .int 0, .int 0, .int 0, .ref z.2])), (z.2, .inr (7, [.int 0, .int 0, .int 0, .int 0]))] : va_W)) = [] := rfl
  rw [e0, List.append_nil]
  exact hW
set_option maxHeartbeats 4000000 in
set_option maxRecDepth 100000 in
theorem c_X1_init (l : Launch) (D : va_G) (cA : Nat → ClassId) (a sz : Nat) : Met l yX1_init wsX1_init ({ frames := 4, cells := 141, slots := 1005, locals := 74 }) (ic_P D cA 1 [.null, .int 0] a sz) (ic_Q D a sz (fun u : Nat × List (Nat → Nat) => u.2.length = 5) (fun u => [(a, .inr (1, [.ref u.1, .int 0])), (u.1, .inl (cA 5, 5, .inr (.inr (.inr (.inr (ic_rf (fun z : Nat → Nat => z 0) u.2))))))] ++ u.2.flatMap (ic_B cA))) 141 1005 (ic_A a sz) := by
  refine Met.ofW (cc := cX1_init) (maxL := 2) (ret := none) (by decide) rfl ?_
  intro p e s m args below meth c s₁ B hml hv
  obtain ⟨rfl, hsz, hP, hK⟩ := hv
  have hx := B.exec
  have hb := B.bytes
  have hr0 := B.returns
  have hts := atoms_spec (ws := wsX1_init) B.pre
  have hown : s.vm.findClass RX1 = some m.cls := findClass_of_methodNamed B.named
  have hlocks := B.notSynchronized
  have hin : meth.name = "<init>" := (name_of_methodNamed B.named B.method).1
  subst hsz
  have hP : va_P D vwCl [(a, .inr (1, [.null, .int 0]))] s.heap := hP
  have hW := ic_start hP
  have hA : ∀ q : Nat, s.heap.size ≤ q → ic_A a s.heap.size q := fun q h => Or.inr h
  have hi1 : ∀ w ∈ wsX10, w ∈ wsX1_init := fun w h => List.mem_cons_of_mem _ (List.mem_append_left _ (List.mem_append_left _ (List.mem_append_left _ (List.mem_append_left _ (List.mem_append_left _ (List.mem_append_left _ (List.mem_append_right _ h)))))))
  have hi8 : ∀ w ∈ wsX80, w ∈ wsX1_init := fun w h => List.mem_cons_of_mem _ (List.mem_append_left _ (List.mem_append_left _ (List.mem_append_left _ (List.mem_append_left _ (List.mem_append_left _ (List.mem_append_right _ h))))))
  have hl := lv_entry ([.ref a]) (n := 2) (Nat.le_of_ble_eq_true rfl)
  rw [lg_entry_eq]
  generalize (lg_sl ([.ref a]) ++ List.replicate (2 - (lg_sl ([.ref a])).length) Slot.unset).toArray = ls at hl ⊢
  have hl : lv_has ls 2 [(0, .ref a)] := hl
  refine lv_aload_n hx hb dX1_init_0 rfl (lv_at hl 0 rfl) ?_
  refine W.objInit hx hb hown (hts _ (wm 1 rfl)) (hts _ (wm 2 rfl)) (hts _ (wm 3 rfl)) rfl (by rw [hml]; exact hl.1) rfl dX1_init_1 (Nat.le_of_ble_eq_true rfl) (Nat.le_of_ble_eq_true rfl) ?_
  refine W.eq (g2 := F0 m 4 ls []) rfl ?_
  refine lv_aload_n hx hb dX1_init_4 rfl (lv_at hl 0 rfl) ?_
  refine lv_iconst (v := (5 : Int32)) hx hb dX1_init_5 (by decide) ?_
  refine ic_newq (C := "TransitMeter$State") hx hb hown (hts _ (wm 4 rfl)) hK.2.2.2 hK.1 5 rfl hW hA (by decide) (show Int32.toNatClampNeg 5 = 5 by decide) (Nat.le_of_ble_eq_true rfl) (Nat.le_of_ble_eq_true rfl) (Nat.le_of_ble_eq_true rfl) dX1_init_6 (fun q1 H hW => ?_)
  have hW : ic_W D ([(a, .inr (1, [.null, .int 0])), (q1, .inl (cA 5, 5, .inr (.inr (.inr (.inr (fun _ => none))))))]) (ic_A a s.heap.size) s.heap H _ := hW
  refine ic_putF (ci := 1) (v := .ref q1) (C := RX1) (T := TX1) (N := 2) hx hb hts hi1 tyX1 tyX1_ok nmX1 hown hK.1 hW 0 rfl rfl 0 (by decide) (hts _ (wm 5 rfl)) rfl hin rfl (tyX1_ok 0 (by decide)) rfl rfl (Nat.le_of_ble_eq_true rfl) dX1_init_9 (fun H locs hW => ?_)
  have hW : ic_W D ([(a, .inr (1, [.ref q1, .int 0])), (q1, .inl (cA 5, 5, .inr (.inr (.inr (.inr (fun _ => none))))))]) (ic_A a s.heap.size) s.heap H _ := hW
  refine lv_iconst (v := (0 : Int32)) hx hb dX1_init_12 (by decide) ?_
  refine lv_istore_n (lv' := [(1, .int (0 : Int32)), (0, .ref a)]) hx hb dX1_init_13 rfl hl (by decide) rfl (fun ls hl => ?_)
  have hL : ∀ (n : Nat) (zs : List (Nat → Nat)) (H : Heap) (locs : List Loc) (ls : Array Slot), zs.length + n = 5 → ic_W D ([(a, .inr (1, [.ref q1, .int 0])), (q1, .inl (cA 5, 5, .inr (.inr (.inr (.inr (ic_rf (fun z : Nat → Nat => z 0) zs))))))] ++ zs.flatMap (ic_B cA)) (ic_A a s.heap.size) s.heap H locs → lv_has ls 2 [(1, .int (nI zs.length)), (0, .ref a)] → W p l e (headSpec wsX1_init { frames := 4, cells := 141, slots := 1005, locals := 74 }).room s m ([.ref a] : List Value).toArray below meth c H locs (1 + zs.length * 28) (5 + zs.length * 200) (MQ below (ic_Q D a s.heap.size (fun u : Nat × List (Nat → Nat) => u.2.length = 5) (fun u => [(a, .inr (1, [.ref u.1, .int 0])), (u.1, .inl (cA 5, 5, .inr (.inr (.inr (.inr (ic_rf (fun z : Nat → Nat => z 0) u.2))))))] ++ u.2.flatMap (ic_B cA))) ([.ref a] : List Value).toArray s 141 1005 (ic_A a s.heap.size)) (F0 m 14 ls []) := by
    intro n
    induction n with
    | zero =>
      intro zs H locs ls hn hW hl
      refine lv_iload_n hx hb dX1_init_14 rfl (lv_at hl 0 rfl) ?_
      refine lv_iconst (v := (5 : Int32)) hx hb dX1_init_15 (by decide) ?_
      refine lv_icmp_ge (tgt := 38) hx hb dX1_init_16 (by decide) (fun _ => ?_) (fun c1 => absurd (show (5 : Int32) ≤ nI zs.length by rw [show zs.length = 5 by omega]; decide) c1)
      refine W.widen (k := 141) (n := 1005) (by omega) (by omega) ?_
      exact ic_vret hx hb hr0 hlocks (q1, zs) (by show zs.length = 5; omega) hW dX1_init_38
    | succ n ih =>
      intro zs H locs ls hn hW hl
      refine lv_iload_n hx hb dX1_init_14 rfl (lv_at hl 0 rfl) ?_
      refine lv_iconst (v := (5 : Int32)) hx hb dX1_init_15 (by decide) ?_
      refine lv_icmp_ge (tgt := 38) hx hb dX1_init_16 (by decide) (fun c1 => absurd c1 (show ¬ (5 : Int32) ≤ nI zs.length from nI_ge (b := 5) (by omega) (by decide))) (fun _ => ?_)
      refine lv_aload_n hx hb dX1_init_19 rfl (lv_at hl 1 rfl) ?_
      refine ic_get (C := RX1) (T := TX1) (N := 2) hx hb hts hi1 hown hK.1 hW 0 rfl rfl 0 (by decide) (hts _ (wm 5 rfl)) (v := .ref q1) rfl dX1_init_20 ?_
      refine lv_iload_n hx hb dX1_init_23 rfl (lv_at hl 0 rfl) ?_
      refine ic_new (ci := 8) (fs := [.null, .int 0, .null, .null, .int 0, .null, .int 0, .int 0, .long 0, .long 0]) (C := RX8) (T := TX8) (N := 10) hx hb hts hi8 tyX8 tyX8_ok hown (hts _ (wm 4 rfl)) (hts _ (wm 6 rfl)) (hts _ (wm 7 rfl)) hK.1 hW hA rfl (fun j hj => by rcases (show j = 0 ∨ j = 1 ∨ j = 2 ∨ j = 3 ∨ j = 4 ∨ j = 5 ∨ j = 6 ∨ j = 7 ∨ j = 8 ∨ j = 9 by omega) with rfl | rfl | rfl | rfl | rfl | rfl | rfl | rfl | rfl | rfl <;> rfl) (by show _ ≤ 141; omega) (by show _ ≤ 1005; omega) dX1_init_24 (fun q2 H hW => ?_)
      refine lv_dup hx hb dX1_init_27 rfl ?_
      refine ic_call (va_runI (As := []) (rest := [.ref q2, .int (nI zs.length), .ref q1]) ⟨hx, hb, hml, hown, hts⟩ (c_X8_init l D cA q2 H.size) (cwI 0 hts gX1_init_X8_init rfl rfl rfl (hts _ (wm 7 rfl)) (hts _ (wm 8 rfl)) (hts _ (wm 9 rfl)) rfl (by decide +kernel) ⟨(Nat.le_of_ble_eq_true rfl), (Nat.le_of_ble_eq_true rfl)⟩) (ic_pre hK hW) rfl rfl hl.1 rfl (lv_room (Nat.le_of_ble_eq_true rfl)) dX1_init_28 ⟨(by show _ ≤ 141; omega), (by show _ ≤ 1005; omega)⟩) hW hA (fun u H locs hu hW1 => ?_)
      have hu : u 0 = q2 := hu
      subst hu
      have hW := hW1
      refine ic_aast (v := (u 0)) (r := (RX8, TX8, 10)) hx hb hK.1 hW 1 5 _ 8 rfl rfl (ic_B_first) rfl (inb_n (show zs.length < 5 by omega) (by decide)) dX1_init_31 (fun H locs hW => ?_)
      have e1 : va_up (ic_rf (fun z : Nat → Nat => z 0) zs) (ix (nI zs.length)) (some (u 0)) = ic_rf (fun z : Nat → Nat => z 0) (zs ++ [u]) := ic_up (fun z : Nat → Nat => z 0) zs u (ix_n (by omega))
      have hW : ic_W D (([(a, .inr (1, [.ref q1, .int 0])), (q1, .inl (cA 5, 5, .inr (.inr (.inr (.inr (va_up (ic_rf (fun z : Nat → Nat => z 0) zs) (ix (nI zs.length)) (some (u 0))))))))] ++ zs.flatMap (ic_B cA)) ++ ic_B cA u) (ic_A a s.heap.size) s.heap H _ := hW
      rw [e1] at hW
      have hW := hW.asc
      rw [show zs.flatMap (ic_B cA) ++ ic_B cA u = (zs ++ [u]).flatMap (ic_B cA) from by rw [List.flatMap_append, List.flatMap_cons, List.flatMap_nil, List.append_nil]] at hW
      obtain ⟨v, ev⟩ : ∃ y : Int32, y = nI zs.length + 1 := ⟨_, rfl⟩
      refine lv_iinc (v := v) (lv' := [(1, .int v), (0, .ref a)]) hx hb dX1_init_32 hl (k := 0) rfl (by rw [ev]; rfl) (by decide) rfl (fun ls hl => ?_)
      rw [ev, ← nI_succ] at hl
      refine lv_goto (tgt := 14) hx hb dX1_init_35 (by decide) ?_
      refine W.widen (k := 1 + (zs ++ [u]).length * 28) (n := 5 + (zs ++ [u]).length * 200) (by rw [List.length_append]; show _ ≤ _ + (zs.length + 1) * _; omega) (by rw [List.length_append]; show _ ≤ _ + (zs.length + 1) * _; omega) ?_
      exact ih (zs ++ [u]) _ _ _ (by rw [List.length_append]; show zs.length + 1 + n = 5; omega) hW (by rw [List.length_append]; exact hl)
  refine W.widen (k := 1 + ([] : List (Nat → Nat)).length * 28) (n := 5 + ([] : List (Nat → Nat)).length * 200) (Nat.le_of_ble_eq_true rfl) (Nat.le_of_ble_eq_true rfl) ?_
  refine hL 5 [] _ _ _ rfl ?_ hl
  show ic_W D ([(a, .inr (1, [.ref q1, .int 0])), (q1, .inl (cA 5, 5, .inr (.inr (.inr (.inr (ic_rf (fun z : Nat → Nat => z 0) ([] : List (Nat → Nat))))))))] ++ ([] : List (Nat → Nat)).flatMap (ic_B cA)) (ic_A a s.heap.size) s.heap _ _
  rw [← ic_rf0 (fun z : Nat → Nat => z 0)]
  have e0 : ([] : List (Nat → Nat)).flatMap (ic_B cA) = [] := rfl
  rw [e0, List.append_nil]
  exact hW

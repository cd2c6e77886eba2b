/-! CONSTRUCTORS, 2: their contracts, written by gen_init.py out of the bytecode -/
set_option maxHeartbeats 4000000 in
set_option maxRecDepth 100000 in
theorem c_X7_init (l : Launch) (D : va_G) (cA : Nat → ClassId) (a sz : Nat) : Met l yX7_init wsX7_init ({ frames := 1, cells := 0, slots := 0, locals := 12 }) (ic_P D cA 7 [.int 0, .int 0, .int 0, .int 0] a sz) (ic_Q D a sz (fun u : Unit => True) (fun u => [(a, .inr (7, [.int 0, .int 0, .int 0, .int 0]))])) 0 0 (ic_A a sz) := by
  refine Met.ofW (cc := cX7_init) (maxL := 1) (ret := none) (by decide) rfl ?_
  intro p e s m args below meth c s₁ B hml hv
  obtain ⟨rfl, hsz, hP, hK⟩ := hv
  have hx := B.exec
  have hb := B.bytes
  have hr0 := B.returns
  have hts := atoms_spec (ws := wsX7_init) B.pre
  have hown : s.vm.findClass RX7 = some m.cls := findClass_of_methodNamed B.named
  have hlocks := B.notSynchronized
  have hin : meth.name = "<init>" := (name_of_methodNamed B.named B.method).1
  subst hsz
  have hP : va_P D vwCl [(a, .inr (7, [.int 0, .int 0, .int 0, .int 0]))] s.heap := hP
  have hW := ic_start hP
  have hA : ∀ q : Nat, s.heap.size ≤ q → ic_A a s.heap.size q := fun q h => Or.inr h
  have hl := lv_entry ([.ref a]) (n := 1) (Nat.le_of_ble_eq_true rfl)
  rw [lg_entry_eq]
  generalize (lg_sl ([.ref a]) ++ List.replicate (1 - (lg_sl ([.ref a])).length) Slot.unset).toArray = ls at hl ⊢
  have hl : lv_has ls 1 [(0, .ref a)] := hl
  refine lv_aload_n hx hb dX7_init_0 rfl (lv_at hl 0 rfl) ?_
  refine W.objInit hx hb hown (hts _ (wm 1 rfl)) (hts _ (wm 2 rfl)) (hts _ (wm 3 rfl)) rfl (by rw [hml]; exact hl.1) rfl dX7_init_1 (Nat.le_of_ble_eq_true rfl) (Nat.le_of_ble_eq_true rfl) ?_
  refine W.eq (g2 := F0 m 4 ls []) rfl ?_
  refine W.widen (k := 0) (n := 0) (Nat.le_of_ble_eq_true rfl) (Nat.le_of_ble_eq_true rfl) ?_
  exact ic_vret hx hb hr0 hlocks () trivial hW dX7_init_4
set_option maxHeartbeats 4000000 in
set_option maxRecDepth 100000 in
theorem c_X5_init (l : Launch) (D : va_G) (cA : Nat → ClassId) (a sz : Nat) : Met l yX5_init wsX5_init ({ frames := 1, cells := 0, slots := 0, locals := 12 }) (ic_P D cA 5 [.int 0, .int 0, .int 0, .int 0, .int 0, .int 0] a sz) (ic_Q D a sz (fun u : Unit => True) (fun u => [(a, .inr (5, [.int 0, .int 0, .int 0, .int 0, .int 0, .int 0]))])) 0 0 (ic_A a sz) := by
  refine Met.ofW (cc := cX5_init) (maxL := 1) (ret := none) (by decide) rfl ?_
  intro p e s m args below meth c s₁ B hml hv
  obtain ⟨rfl, hsz, hP, hK⟩ := hv
  have hx := B.exec
  have hb := B.bytes
  have hr0 := B.returns
  have hts := atoms_spec (ws := wsX5_init) B.pre
  have hown : s.vm.findClass RX5 = some m.cls := findClass_of_methodNamed B.named
  have hlocks := B.notSynchronized
  have hin : meth.name = "<init>" := (name_of_methodNamed B.named B.method).1
  subst hsz
  have hP : va_P D vwCl [(a, .inr (5, [.int 0, .int 0, .int 0, .int 0, .int 0, .int 0]))] s.heap := hP
  have hW := ic_start hP
  have hA : ∀ q : Nat, s.heap.size ≤ q → ic_A a s.heap.size q := fun q h => Or.inr h
  have hl := lv_entry ([.ref a]) (n := 1) (Nat.le_of_ble_eq_true rfl)
  rw [lg_entry_eq]
  generalize (lg_sl ([.ref a]) ++ List.replicate (1 - (lg_sl ([.ref a])).length) Slot.unset).toArray = ls at hl ⊢
  have hl : lv_has ls 1 [(0, .ref a)] := hl
  refine lv_aload_n hx hb dX5_init_0 rfl (lv_at hl 0 rfl) ?_
  refine W.objInit hx hb hown (hts _ (wm 1 rfl)) (hts _ (wm 2 rfl)) (hts _ (wm 3 rfl)) rfl (by rw [hml]; exact hl.1) rfl dX5_init_1 (Nat.le_of_ble_eq_true rfl) (Nat.le_of_ble_eq_true rfl) ?_
  refine W.eq (g2 := F0 m 4 ls []) rfl ?_
  refine W.widen (k := 0) (n := 0) (Nat.le_of_ble_eq_true rfl) (Nat.le_of_ble_eq_true rfl) ?_
  exact ic_vret hx hb hr0 hlocks () trivial hW dX5_init_4
set_option maxHeartbeats 4000000 in
set_option maxRecDepth 100000 in
theorem c_X9_init (l : Launch) (D : va_G) (cA : Nat → ClassId) (a sz : Nat) : Met l yX9_init wsX9_init ({ frames := 1, cells := 1, slots := 100, locals := 12 }) (ic_P D cA 9 [.null, .int 0] a sz) (ic_Q D a sz (fun u : Nat => True) (fun u => [(a, .inr (9, [.ref u, .int 0])), (u, .inl (cA 0, 100, .inl (fun _ => 0)))])) 1 100 (ic_A a sz) := by
  refine Met.ofW (cc := cX9_init) (maxL := 1) (ret := none) (by decide) rfl ?_
  intro p e s m args below meth c s₁ B hml hv
  obtain ⟨rfl, hsz, hP, hK⟩ := hv
  have hx := B.exec
  have hb := B.bytes
  have hr0 := B.returns
  have hts := atoms_spec (ws := wsX9_init) B.pre
  have hown : s.vm.findClass RX9 = some m.cls := findClass_of_methodNamed B.named
  have hlocks := B.notSynchronized
  have hin : meth.name = "<init>" := (name_of_methodNamed B.named B.method).1
  subst hsz
  have hP : va_P D vwCl [(a, .inr (9, [.null, .int 0]))] s.heap := hP
  have hW := ic_start hP
  have hA : ∀ q : Nat, s.heap.size ≤ q → ic_A a s.heap.size q := fun q h => Or.inr h
  have hi9 : ∀ w ∈ wsX90, w ∈ wsX9_init := fun w h => List.mem_cons_of_mem _ (List.mem_append_right _ h)
  have hl := lv_entry ([.ref a]) (n := 1) (Nat.le_of_ble_eq_true rfl)
  rw [lg_entry_eq]
  generalize (lg_sl ([.ref a]) ++ List.replicate (1 - (lg_sl ([.ref a])).length) Slot.unset).toArray = ls at hl ⊢
  have hl : lv_has ls 1 [(0, .ref a)] := hl
  refine lv_aload_n hx hb dX9_init_0 rfl (lv_at hl 0 rfl) ?_
  refine W.objInit hx hb hown (hts _ (wm 1 rfl)) (hts _ (wm 2 rfl)) (hts _ (wm 3 rfl)) rfl (by rw [hml]; exact hl.1) rfl dX9_init_1 (Nat.le_of_ble_eq_true rfl) (Nat.le_of_ble_eq_true rfl) ?_
  refine W.eq (g2 := F0 m 4 ls []) rfl ?_
  refine lv_aload_n hx hb dX9_init_4 rfl (lv_at hl 0 rfl) ?_
  refine lv_bipush (v := (100 : Int32)) hx hb dX9_init_5 (by decide) ?_
  refine ic_newa (atype := .int) (ty := .int) (a0 := (100, .inl (fun _ => 0))) hx hb (hts _ (wm 4 rfl)) rfl hK.1 0 rfl hW hA (fun _ => rfl) (by decide) (show Int32.toNatClampNeg 100 = 100 by decide) (Nat.le_of_ble_eq_true rfl) (Nat.le_of_ble_eq_true rfl) (Nat.le_of_ble_eq_true rfl) dX9_init_7 (fun q1 H hW => ?_)
  have hW : ic_W D ([(a, .inr (9, [.null, .int 0])), (q1, .inl (cA 0, 100, .inl (fun _ => 0)))]) (ic_A a s.heap.size) s.heap H _ := hW
  refine ic_putF (ci := 9) (v := .ref q1) (C := RX9) (T := TX9) (N := 2) hx hb hts hi9 tyX9 tyX9_ok nmX9 hown hK.1 hW 0 rfl rfl 0 (by decide) (hts _ (wm 5 rfl)) rfl hin rfl (tyX9_ok 0 (by decide)) rfl rfl (Nat.le_of_ble_eq_true rfl) dX9_init_9 (fun H locs hW => ?_)
  have hW : ic_W D ([(a, .inr (9, [.ref q1, .int 0])), (q1, .inl (cA 0, 100, .inl (fun _ => 0)))]) (ic_A a s.heap.size) s.heap H _ := hW
  refine W.widen (k := 1) (n := 100) (Nat.le_of_ble_eq_true rfl) (Nat.le_of_ble_eq_true rfl) ?_
  exact ic_vret hx hb hr0 hlocks q1 trivial hW dX9_init_12
set_option maxHeartbeats 4000000 in
set_option maxRecDepth 100000 in
theorem c_X4_init (l : Launch) (D : va_G) (cA : Nat → ClassId) (a sz : Nat) : Met l yX4_init wsX4_init ({ frames := 1, cells := 2, slots := 12, locals := 12 }) (ic_P D cA 4 [.null, .null, .int 0] a sz) (ic_Q D a sz (fun u : Nat × Nat => True) (fun u => [(a, .inr (4, [.ref u.1, .ref u.2, .int 0])), (u.1, .inl (cA 0, 6, .inl (fun _ => 0))), (u.2, .inl (cA 0, 6, .inl (fun _ => 0)))])) 2 12 (ic_A a sz) := by
  refine Met.ofW (cc := cX4_init) (maxL := 1) (ret := none) (by decide) rfl ?_
  intro p e s m args below meth c s₁ B hml hv
  obtain ⟨rfl, hsz, hP, hK⟩ := hv
  have hx := B.exec
  have hb := B.bytes
  have hr0 := B.returns
  have hts := atoms_spec (ws := wsX4_init) B.pre
  have hown : s.vm.findClass RX4 = some m.cls := findClass_of_methodNamed B.named
  have hlocks := B.notSynchronized
  have hin : meth.name = "<init>" := (name_of_methodNamed B.named B.method).1
  subst hsz
  have hP : va_P D vwCl [(a, .inr (4, [.null, .null, .int 0]))] s.heap := hP
  have hW := ic_start hP
  have hA : ∀ q : Nat, s.heap.size ≤ q → ic_A a s.heap.size q := fun q h => Or.inr h
  have hi4 : ∀ w ∈ wsX40, w ∈ wsX4_init := fun w h => List.mem_cons_of_mem _ (List.mem_append_right _ h)
  have hl := lv_entry ([.ref a]) (n := 1) (Nat.le_of_ble_eq_true rfl)
  rw [lg_entry_eq]
  generalize (lg_sl ([.ref a]) ++ List.replicate (1 - (lg_sl ([.ref a])).length) Slot.unset).toArray = ls at hl ⊢
  have hl : lv_has ls 1 [(0, .ref a)] := hl
  refine lv_aload_n hx hb dX4_init_0 rfl (lv_at hl 0 rfl) ?_
  refine W.objInit hx hb hown (hts _ (wm 1 rfl)) (hts _ (wm 2 rfl)) (hts _ (wm 3 rfl)) rfl (by rw [hml]; exact hl.1) rfl dX4_init_1 (Nat.le_of_ble_eq_true rfl) (Nat.le_of_ble_eq_true rfl) ?_
  refine W.eq (g2 := F0 m 4 ls []) rfl ?_
  refine lv_aload_n hx hb dX4_init_4 rfl (lv_at hl 0 rfl) ?_
  refine lv_bipush (v := (6 : Int32)) hx hb dX4_init_5 (by decide) ?_
  refine ic_newa (atype := .int) (ty := .int) (a0 := (6, .inl (fun _ => 0))) hx hb (hts _ (wm 4 rfl)) rfl hK.1 0 rfl hW hA (fun _ => rfl) (by decide) (show Int32.toNatClampNeg 6 = 6 by decide) (Nat.le_of_ble_eq_true rfl) (Nat.le_of_ble_eq_true rfl) (Nat.le_of_ble_eq_true rfl) dX4_init_7 (fun q1 H hW => ?_)
  have hW : ic_W D ([(a, .inr (4, [.null, .null, .int 0])), (q1, .inl (cA 0, 6, .inl (fun _ => 0)))]) (ic_A a s.heap.size) s.heap H _ := hW
  refine ic_putF (ci := 4) (v := .ref q1) (C := RX4) (T := TX4) (N := 3) hx hb hts hi4 tyX4 tyX4_ok nmX4 hown hK.1 hW 0 rfl rfl 0 (by decide) (hts _ (wm 5 rfl)) rfl hin rfl (tyX4_ok 0 (by decide)) rfl rfl (Nat.le_of_ble_eq_true rfl) dX4_init_9 (fun H locs hW => ?_)
  have hW : ic_W D ([(a, .inr (4, [.ref q1, .null, .int 0])), (q1, .inl (cA 0, 6, .inl (fun _ => 0)))]) (ic_A a s.heap.size) s.heap H _ := hW
  refine lv_aload_n hx hb dX4_init_12 rfl (lv_at hl 0 rfl) ?_
  refine lv_bipush (v := (6 : Int32)) hx hb dX4_init_13 (by decide) ?_
  refine ic_newa (atype := .int) (ty := .int) (a0 := (6, .inl (fun _ => 0))) hx hb (hts _ (wm 4 rfl)) rfl hK.1 0 rfl hW hA (fun _ => rfl) (by decide) (show Int32.toNatClampNeg 6 = 6 by decide) (Nat.le_of_ble_eq_true rfl) (Nat.le_of_ble_eq_true rfl) (Nat.le_of_ble_eq_true rfl) dX4_init_15 (fun q2 H hW => ?_)
  have hW : ic_W D ([(a, .inr (4, [.ref q1, .null, .int 0])), (q1, .inl (cA 0, 6, .inl (fun _ => 0))), (q2, .inl (cA 0, 6, .inl (fun _ => 0)))]) (ic_A a s.heap.size) s.heap H _ := hW
  refine ic_putF (ci := 4) (v := .ref q2) (C := RX4) (T := TX4) (N := 3) hx hb hts hi4 tyX4 tyX4_ok nmX4 hown hK.1 hW 0 rfl rfl 1 (by decide) (hts _ (wm 6 rfl)) rfl hin rfl (tyX4_ok 1 (by decide)) rfl rfl (Nat.le_of_ble_eq_true rfl) dX4_init_17 (fun H locs hW => ?_)
  have hW : ic_W D ([(a, .inr (4, [.ref q1, .ref q2, .int 0])), (q1, .inl (cA 0, 6, .inl (fun _ => 0))), (q2, .inl (cA 0, 6, .inl (fun _ => 0)))]) (ic_A a s.heap.size) s.heap H _ := hW
  refine W.widen (k := 2) (n := 12) (Nat.le_of_ble_eq_true rfl) (Nat.le_of_ble_eq_true rfl) ?_
  exact ic_vret hx hb hr0 hlocks (q1, q2) trivial hW dX4_init_20
set_option maxHeartbeats 4000000 in
set_option maxRecDepth 100000 in
theorem c_X2_init (l : Launch) (D : va_G) (cA : Nat → ClassId) (a sz : Nat) : Met l yX2_init wsX2_init ({ frames := 1, cells := 5, slots := 20, locals := 12 }) (ic_P D cA 2 [.null, .null, .null, .null, .null, .int 0, .int 0, .int 0, .int 0, .int 0, .int 0] a sz) (ic_Q D a sz (fun u : Nat × Nat × Nat × Nat × Nat => True) (fun u => [(a, .inr (2, [.ref u.1, .ref u.2.1, .ref u.2.2.1, .ref u.2.2.2.1, .ref u.2.2.2.2, .int 0, .int 0, .int 0, .int 0, .int 0, .int 0])), (u.1, .inl (cA 2, 4, .inl (fun _ => 0))), (u.2.1, .inl (cA 0, 4, .inl (fun _ => 0))), (u.2.2.1, .inl (cA 0, 4, .inl (fun _ => 0))), (u.2.2.2.1, .inl (cA 0, 4, .inl (fun _ => 0))), (u.2.2.2.2, .inl (cA 0, 4, .inl (fun _ => 0)))])) 5 20 (ic_A a sz) := by
  refine Met.ofW (cc := cX2_init) (maxL := 1) (ret := none) (by decide) rfl ?_
  intro p e s m args below meth c s₁ B hml hv
  obtain ⟨rfl, hsz, hP, hK⟩ := hv
  have hx := B.exec
  have hb := B.bytes
  have hr0 := B.returns
  have hts := atoms_spec (ws := wsX2_init) B.pre
  have hown : s.vm.findClass RX2 = some m.cls := findClass_of_methodNamed B.named
  have hlocks := B.notSynchronized
  have hin : meth.name = "<init>" := (name_of_methodNamed B.named B.method).1
  subst hsz
  have hP : va_P D vwCl [(a, .inr (2, [.null, .null, .null, .null, .null, .int 0, .int 0, .int 0, .int 0, .int 0, .int 0]))] s.heap := hP
  have hW := ic_start hP
  have hA : ∀ q : Nat, s.heap.size ≤ q → ic_A a s.heap.size q := fun q h => Or.inr h
  have hi2 : ∀ w ∈ wsX20, w ∈ wsX2_init := fun w h => List.mem_cons_of_mem _ (List.mem_append_right _ h)
  have hl := lv_entry ([.ref a]) (n := 1) (Nat.le_of_ble_eq_true rfl)
  rw [lg_entry_eq]
  generalize (lg_sl ([.ref a]) ++ List.replicate (1 - (lg_sl ([.ref a])).length) Slot.unset).toArray = ls at hl ⊢
  have hl : lv_has ls 1 [(0, .ref a)] := hl
  refine lv_aload_n hx hb dX2_init_0 rfl (lv_at hl 0 rfl) ?_
  refine W.objInit hx hb hown (hts _ (wm 1 rfl)) (hts _ (wm 2 rfl)) (hts _ (wm 3 rfl)) rfl (by rw [hml]; exact hl.1) rfl dX2_init_1 (Nat.le_of_ble_eq_true rfl) (Nat.le_of_ble_eq_true rfl) ?_
  refine W.eq (g2 := F0 m 4 ls []) rfl ?_
  refine lv_aload_n hx hb dX2_init_4 rfl (lv_at hl 0 rfl) ?_
  refine lv_iconst (v := (4 : Int32)) hx hb dX2_init_5 (by decide) ?_
  refine ic_newa (atype := .boolean) (ty := .boolean) (a0 := (4, .inl (fun _ => 0))) hx hb (hts _ (wm 4 rfl)) rfl hK.1 2 rfl hW hA (fun _ => rfl) (by decide) (show Int32.toNatClampNeg 4 = 4 by decide) (Nat.le_of_ble_eq_true rfl) (Nat.le_of_ble_eq_true rfl) (Nat.le_of_ble_eq_true rfl) dX2_init_6 (fun q1 H hW => ?_)
  have hW : ic_W D ([(a, .inr (2, [.null, .null, .null, .null, .null, .int 0, .int 0, .int 0, .int 0, .int 0, .int 0])), (q1, .inl (cA 2, 4, .inl (fun _ => 0)))]) (ic_A a s.heap.size) s.heap H _ := hW
  refine ic_putF (ci := 2) (v := .ref q1) (C := RX2) (T := TX2) (N := 11) hx hb hts hi2 tyX2 tyX2_ok nmX2 hown hK.1 hW 0 rfl rfl 0 (by decide) (hts _ (wm 5 rfl)) rfl hin rfl (tyX2_ok 0 (by decide)) rfl rfl (Nat.le_of_ble_eq_true rfl) dX2_init_8 (fun H locs hW => ?_)
  have hW : ic_W D ([(a, .inr (2, [.ref q1, .null, .null, .null, .null, .int 0, .int 0, .int 0, .int 0, .int 0, .int 0])), (q1, .inl (cA 2, 4, .inl (fun _ => 0)))]) (ic_A a s.heap.size) s.heap H _ := hW
  refine lv_aload_n hx hb dX2_init_11 rfl (lv_at hl 0 rfl) ?_
  refine lv_iconst (v := (4 : Int32)) hx hb dX2_init_12 (by decide) ?_
  refine ic_newa (atype := .int) (ty := .int) (a0 := (4, .inl (fun _ => 0))) hx hb (hts _ (wm 6 rfl)) rfl hK.1 0 rfl hW hA (fun _ => rfl) (by decide) (show Int32.toNatClampNeg 4 = 4 by decide) (Nat.le_of_ble_eq_true rfl) (Nat.le_of_ble_eq_true rfl) (Nat.le_of_ble_eq_true rfl) dX2_init_13 (fun q2 H hW => ?_)
  have hW : ic_W D ([(a, .inr (2, [.ref q1, .null, .null, .null, .null, .int 0, .int 0, .int 0, .int 0, .int 0, .int 0])), (q1, .inl (cA 2, 4, .inl (fun _ => 0))), (q2, .inl (cA 0, 4, .inl (fun _ => 0)))]) (ic_A a s.heap.size) s.heap H _ := hW
  refine ic_putF (ci := 2) (v := .ref q2) (C := RX2) (T := TX2) (N := 11) hx hb hts hi2 tyX2 tyX2_ok nmX2 hown hK.1 hW 0 rfl rfl 1 (by decide) (hts _ (wm 7 rfl)) rfl hin rfl (tyX2_ok 1 (by decide)) rfl rfl (Nat.le_of_ble_eq_true rfl) dX2_init_15 (fun H locs hW => ?_)
  have hW : ic_W D ([(a, .inr (2, [.ref q1, .ref q2, .null, .null, .null, .int 0, .int 0, .int 0, .int 0, .int 0, .int 0])), (q1, .inl (cA 2, 4, .inl (fun _ => 0))), (q2, .inl (cA 0, 4, .inl (fun _ => 0)))]) (ic_A a s.heap.size) s.heap H _ := hW
  refine lv_aload_n hx hb dX2_init_18 rfl (lv_at hl 0 rfl) ?_
  refine lv_iconst (v := (4 : Int32)) hx hb dX2_init_19 (by decide) ?_
  refine ic_newa (atype := .int) (ty := .int) (a0 := (4, .inl (fun _ => 0))) hx hb (hts _ (wm 6 rfl)) rfl hK.1 0 rfl hW hA (fun _ => rfl) (by decide) (show Int32.toNatClampNeg 4 = 4 by decide) (Nat.le_of_ble_eq_true rfl) (Nat.le_of_ble_eq_true rfl) (Nat.le_of_ble_eq_true rfl) dX2_init_20 (fun q3 H hW => ?_)
  have hW : ic_W D ([(a, .inr (2, [.ref q1, .ref q2, .null, .null, .null, .int 0, .int 0, .int 0, .int 0, .int 0, .int 0])), (q1, .inl (cA 2, 4, .inl (fun _ => 0))), (q2, .inl (cA 0, 4, .inl (fun _ => 0))), (q3, .inl (cA 0, 4, .inl (fun _ => 0)))]) (ic_A a s.heap.size) s.heap H _ := hW
  refine ic_putF (ci := 2) (v := .ref q3) (C := RX2) (T := TX2) (N := 11) hx hb hts hi2 tyX2 tyX2_ok nmX2 hown hK.1 hW 0 rfl rfl 2 (by decide) (hts _ (wm 8 rfl)) rfl hin rfl (tyX2_ok 2 (by decide)) rfl rfl (Nat.le_of_ble_eq_true rfl) dX2_init_22 (fun H locs hW => ?_)
  have hW : ic_W D ([(a, .inr (2, [.ref q1, .ref q2, .ref q3, .null, .null, .int 0, .int 0, .int 0, .int 0, .int 0, .int 0])), (q1, .inl (cA 2, 4, .inl (fun _ => 0))), (q2, .inl (cA 0, 4, .inl (fun _ => 0))), (q3, .inl (cA 0, 4, .inl (fun _ => 0)))]) (ic_A a s.heap.size) s.heap H _ := hW
  refine lv_aload_n hx hb dX2_init_25 rfl (lv_at hl 0 rfl) ?_
  refine lv_iconst (v := (4 : Int32)) hx hb dX2_init_26 (by decide) ?_
  refine ic_newa (atype := .int) (ty := .int) (a0 := (4, .inl (fun _ => 0))) hx hb (hts _ (wm 6 rfl)) rfl hK.1 0 rfl hW hA (fun _ => rfl) (by decide) (show Int32.toNatClampNeg 4 = 4 by decide) (Nat.le_of_ble_eq_true rfl) (Nat.le_of_ble_eq_true rfl) (Nat.le_of_ble_eq_true rfl) dX2_init_27 (fun q4 H hW => ?_)
  have hW : ic_W D ([(a, .inr (2, [.ref q1, .ref q2, .ref q3, .null, .null, .int 0, .int 0, .int 0, .int 0, .int 0, .int 0])), (q1, .inl (cA 2, 4, .inl (fun _ => 0))), (q2, .inl (cA 0, 4, .inl (fun _ => 0))), (q3, .inl (cA 0, 4, .inl (fun _ => 0))), (q4, .inl (cA 0, 4, .inl (fun _ => 0)))]) (ic_A a s.heap.size) s.heap H _ := hW
  refine ic_putF (ci := 2) (v := .ref q4) (C := RX2) (T := TX2) (N := 11) hx hb hts hi2 tyX2 tyX2_ok nmX2 hown hK.1 hW 0 rfl rfl 3 (by decide) (hts _ (wm 9 rfl)) rfl hin rfl (tyX2_ok 3 (by decide)) rfl rfl (Nat.le_of_ble_eq_true rfl) dX2_init_29 (fun H locs hW => ?_)
  have hW : ic_W D ([(a, .inr (2, [.ref q1, .ref q2, .ref q3, .ref q4, .null, .int 0, .int 0, .int 0, .int 0, .int 0, .int 0])), (q1, .inl (cA 2, 4, .inl (fun _ => 0))), (q2, .inl (cA 0, 4, .inl (fun _ => 0))), (q3, .inl (cA 0, 4, .inl (fun _ => 0))), (q4, .inl (cA 0, 4, .inl (fun _ => 0)))]) (ic_A a s.heap.size) s.heap H _ := hW
  refine lv_aload_n hx hb dX2_init_32 rfl (lv_at hl 0 rfl) ?_
  refine lv_iconst (v := (4 : Int32)) hx hb dX2_init_33 (by decide) ?_
  refine ic_newa (atype := .int) (ty := .int) (a0 := (4, .inl (fun _ => 0))) hx hb (hts _ (wm 6 rfl)) rfl hK.1 0 rfl hW hA (fun _ => rfl) (by decide) (show Int32.toNatClampNeg 4 = 4 by decide) (Nat.le_of_ble_eq_true rfl) (Nat.le_of_ble_eq_true rfl) (Nat.le_of_ble_eq_true rfl) dX2_init_34 (fun q5 H hW => ?_)
  have hW : ic_W D ([(a, .inr (2, [.ref q1, .ref q2, .ref q3, .ref q4, .null, .int 0, .int 0, .int 0, .int 0, .int 0, .int 0])), (q1, .inl (cA 2, 4, .inl (fun _ => 0))), (q2, .inl (cA 0, 4, .inl (fun _ => 0))), (q3, .inl (cA 0, 4, .inl (fun _ => 0))), (q4, .inl (cA 0, 4, .inl (fun _ => 0))), (q5, .inl (cA 0, 4, .inl (fun _ => 0)))]) (ic_A a s.heap.size) s.heap H _ := hW
  refine ic_putF (ci := 2) (v := .ref q5) (C := RX2) (T := TX2) (N := 11) hx hb hts hi2 tyX2 tyX2_ok nmX2 hown hK.1 hW 0 rfl rfl 4 (by decide) (hts _ (wm 10 rfl)) rfl hin rfl (tyX2_ok 4 (by decide)) rfl rfl (Nat.le_of_ble_eq_true rfl) dX2_init_36 (fun H locs hW => ?_)
  have hW : ic_W D ([(a, .inr (2, [.ref q1, .ref q2, .ref q3, .ref q4, .ref q5, .int 0, .int 0, .int 0, .int 0, .int 0, .int 0])), (q1, .inl (cA 2, 4, .inl (fun _ => 0))), (q2, .inl (cA 0, 4, .inl (fun _ => 0))), (q3, .inl (cA 0, 4, .inl (fun _ => 0))), (q4, .inl (cA 0, 4, .inl (fun _ => 0))), (q5, .inl (cA 0, 4, .inl (fun _ => 0)))]) (ic_A a s.heap.size) s.heap H _ := hW
  refine W.widen (k := 5) (n := 20) (Nat.le_of_ble_eq_true rfl) (Nat.le_of_ble_eq_true rfl) ?_
  exact ic_vret hx hb hr0 hlocks (q1, q2, q3, q4, q5) trivial hW dX2_init_39
set_option maxHeartbeats 4000000 in
set_option maxRecDepth 100000 in
theorem c_X3_init (l : Launch) (D : va_G) (cA : Nat → ClassId) (a sz : Nat) : Met l yX3_init wsX3_init ({ frames := 2, cells := 1, slots := 4, locals := 32 }) (ic_P D cA 3 [.int 0, .int 0, .int 0, .int 0, .int 0, .int 0, .int 0, .int 0, .int 0, .int 0, .int 0, .int 0, .int 0, .int 0, .int 0, .null] a sz) (ic_Q D a sz (fun u : Nat => True) (fun u => [(a, .inr (3, [.int 0, .int 0, .int 0, .int 0, .int 0, .int 0, .int 0, .int 0, .int 0, .int 0, .int (-2000000005), .int (-2000000005), .int 0, .int 0, .int 0, .ref u])), (u, .inr (7, [.int 0, .int 0, .int 0, .int 0]))])) 1 4 (ic_A a sz) := by
  refine Met.ofW (cc := cX3_init) (maxL := 1) (ret := none) (by decide) rfl ?_
  intro p e s m args below meth c s₁ B hml hv
  obtain ⟨rfl, hsz, hP, hK⟩ := hv
  have hx := B.exec
  have hb := B.bytes
  have hr0 := B.returns
  have hts := atoms_spec (ws := wsX3_init) B.pre
  have hown : s.vm.findClass RX3 = some m.cls := findClass_of_methodNamed B.named
  have hlocks := B.notSynchronized
  have hin : meth.name = "<init>" := (name_of_methodNamed B.named B.method).1
  subst hsz
  have hP : va_P D vwCl [(a, .inr (3, [.int 0, .int 0, .int 0, .int 0, .int 0, .int 0, .int 0, .int 0, .int 0, .int 0, .int 0, .int 0, .int 0, .int 0, .int 0, .null]))] s.heap := hP
  have hW := ic_start hP
  have hA : ∀ q : Nat, s.heap.size ≤ q → ic_A a s.heap.size q := fun q h => Or.inr h
  have hi3 : ∀ w ∈ wsX30, w ∈ wsX3_init := fun w h => List.mem_cons_of_mem _ (List.mem_append_left _ (List.mem_append_right _ h))
  have hi7 : ∀ w ∈ wsX70, w ∈ wsX3_init := fun w h => List.mem_cons_of_mem _ (List.mem_append_right _ h)
  have hl := lv_entry ([.ref a]) (n := 1) (Nat.le_of_ble_eq_true rfl)
  rw [lg_entry_eq]
  generalize (lg_sl ([.ref a]) ++ List.replicate (1 - (lg_sl ([.ref a])).length) Slot.unset).toArray = ls at hl ⊢
  have hl : lv_has ls 1 [(0, .ref a)] := hl
  refine lv_aload_n hx hb dX3_init_0 rfl (lv_at hl 0 rfl) ?_
  refine W.objInit hx hb hown (hts _ (wm 1 rfl)) (hts _ (wm 2 rfl)) (hts _ (wm 3 rfl)) rfl (by rw [hml]; exact hl.1) rfl dX3_init_1 (Nat.le_of_ble_eq_true rfl) (Nat.le_of_ble_eq_true rfl) ?_
  refine W.eq (g2 := F0 m 4 ls []) rfl ?_
  refine lv_aload_n hx hb dX3_init_4 rfl (lv_at hl 0 rfl) ?_
  refine lv_ldc (v := (-2000000005 : Int32)) hx hb hown (hts _ (wm 4 rfl)) dX3_init_5 ?_
  refine ic_put (ci := 3) (v := .int (-2000000005 : Int32)) (C := RX3) (T := TX3) (N := 16) hx hb hts hi3 tyX3 tyX3_ok nmX3 hown hK.1 hW 0 rfl rfl 10 (by decide) (hts _ (wm 5 rfl)) rfl (tyX3_ok 10 (by decide)) rfl rfl (Nat.le_of_ble_eq_true rfl) dX3_init_7 (fun H locs hW => ?_)
  have hW : ic_W D ([(a, .inr (3, [.int 0, .int 0, .int 0, .int 0, .int 0, .int 0, .int 0, .int 0, .int 0, .int 0, .int (-2000000005 : Int32), .int 0, .int 0, .int 0, .int 0, .null]))]) (ic_A a s.heap.size) s.heap H _ := hW
  refine lv_aload_n hx hb dX3_init_10 rfl (lv_at hl 0 rfl) ?_
  refine lv_ldc (v := (-2000000005 : Int32)) hx hb hown (hts _ (wm 4 rfl)) dX3_init_11 ?_
  refine ic_put (ci := 3) (v := .int (-2000000005 : Int32)) (C := RX3) (T := TX3) (N := 16) hx hb hts hi3 tyX3 tyX3_ok nmX3 hown hK.1 hW 0 rfl rfl 11 (by decide) (hts _ (wm 6 rfl)) rfl (tyX3_ok 11 (by decide)) rfl rfl (Nat.le_of_ble_eq_true rfl) dX3_init_13 (fun H locs hW => ?_)
  have hW : ic_W D ([(a, .inr (3, [.int 0, .int 0, .int 0, .int 0, .int 0, .int 0, .int 0, .int 0, .int 0, .int 0, .int (-2000000005 : Int32), .int (-2000000005 : Int32), .int 0, .int 0, .int 0, .null]))]) (ic_A a s.heap.size) s.heap H _ := hW
  refine lv_aload_n hx hb dX3_init_16 rfl (lv_at hl 0 rfl) ?_
  refine ic_new (ci := 7) (fs := [.int 0, .int 0, .int 0, .int 0]) (C := RX7) (T := TX7) (N := 4) hx hb hts hi7 tyX7 tyX7_ok hown (hts _ (wm 7 rfl)) (hts _ (wm 8 rfl)) (hts _ (wm 9 rfl)) hK.1 hW hA rfl (fun j hj => by rcases (show j = 0 ∨ j = 1 ∨ j = 2 ∨ j = 3 by omega) with rfl | rfl | rfl | rfl <;> rfl) (Nat.le_of_ble_eq_true rfl) (Nat.le_of_ble_eq_true rfl) dX3_init_17 (fun q1 H hW => ?_)
  refine lv_dup hx hb dX3_init_20 rfl ?_
  refine ic_call (va_runIN (As := []) (rest := [.ref q1, .ref a]) ⟨hx, hb, hml, hown, hts⟩ (c_X7_init l D cA q1 H.size) ⟨va_cnB 0 hts gX3_init_X7_init_n21 rfl rfl rfl hK.1.2.2.2.2.1 (hts _ (wm 9 rfl)) (by decide +kernel) ⟨(Nat.le_of_ble_eq_true rfl), (Nat.le_of_ble_eq_true rfl)⟩, rfl, (hts _ (wm 11 rfl))⟩ (ic_pre hK hW) rfl rfl hl.1 rfl (lv_room (Nat.le_of_ble_eq_true rfl)) dX3_init_21 ⟨(Nat.le_of_ble_eq_true rfl), (Nat.le_of_ble_eq_true rfl)⟩) hW hA (fun u2 H locs hu2 hW1 => ?_)
  have hW := hW1
  have hW : ic_W D ([(a, .inr (3, [.int 0, .int 0, .int 0, .int 0, .int 0, .int 0, .int 0, .int 0, .int 0, .int 0, .int (-2000000005 : Int32), .int (-2000000005 : Int32), .int 0, .int 0, .int 0, .null])), (q1, .inr (7, [.int 0, .int 0, .int 0, .int 0]))]) (ic_A a s.heap.size) s.heap H _ := hW
  refine ic_putF (ci := 3) (v := .ref q1) (C := RX3) (T := TX3) (N := 16) hx hb hts hi3 tyX3 tyX3_ok nmX3 hown hK.1 hW 0 rfl rfl 15 (by decide) (hts _ (wm 10 rfl)) rfl hin rfl (tyX3_ok 15 (by decide)) rfl rfl (Nat.le_of_ble_eq_true rfl) dX3_init_24 (fun H locs hW => ?_)
  have hW : ic_W D ([(a, .inr (3, [.int 0, .int 0, .int 0, .int 0, .int 0, .int 0, .int 0, .int 0, .int 0, .int 0, .int (-2000000005 : Int32), .int (-2000000005 : Int32), .int 0, .int 0, .int 0, .ref q1])), (q1, .inr (7, [.int 0, .int 0, .int 0, .int 0]))]) (ic_A a s.heap.size) s.heap H _ := hW
  refine W.widen (k := 1) (n := 4) (Nat.le_of_ble_eq_true rfl) (Nat.le_of_ble_eq_true rfl) ?_
  exact ic_vret hx hb hr0 hlocks q1 trivial hW dX3_init_27
set_option maxHeartbeats 4000000 in
set_option maxRecDepth 100000 in
theorem c_X0_init (l : Launch) (D : va_G) (cA : Nat → ClassId) (a sz : Nat) : Met l yX0_init wsX0_init ({ frames := 2, cells := 2, slots := 102, locals := 32 }) (ic_P D cA 0 [.null, .int 0, .int 0, .int 0, .int 0, .int 0, .int 0, .int 0] a sz) (ic_Q D a sz (fun u : Nat × Nat => True) (fun u => [(a, .inr (0, [.ref u.1, .int 0, .int 0, .int 0, .int 0, .int 0, .int 0, .int 0])), (u.1, .inr (9, [.ref u.2, .int 0])), (u.2, .inl (cA 0, 100, .inl (fun _ => 0)))])) 2 102 (ic_A a sz) := by
  refine Met.ofW (cc := cX0_init) (maxL := 1) (ret := none) (by decide) rfl ?_
  intro p e s m args below meth c s₁ B hml hv
  obtain ⟨rfl, hsz, hP, hK⟩ := hv
  have hx := B.exec
  have hb := B.bytes
  have hr0 := B.returns
  have hts := atoms_spec (ws := wsX0_init) B.pre
  have hown : s.vm.findClass RX0 = some m.cls := findClass_of_methodNamed B.named
  have hlocks := B.notSynchronized
  have hin : meth.name = "<init>" := (name_of_methodNamed B.named B.method).1
  subst hsz
  have hP : va_P D vwCl [(a, .inr (0, [.null, .int 0, .int 0, .int 0, .int 0, .int 0, .int 0, .int 0]))] s.heap := hP
  have hW := ic_start hP
  have hA : ∀ q : Nat, s.heap.size ≤ q → ic_A a s.heap.size q := fun q h => Or.inr h
  have hi0 : ∀ w ∈ wsX00, w ∈ wsX0_init := fun w h => List.mem_cons_of_mem _ (List.mem_append_right _ h)
  have hi9 : ∀ w ∈ wsX90, w ∈ wsX0_init := fun w h => List.mem_cons_of_mem _ (List.mem_append_left _ (List.mem_append_right _ h))
  have hl := lv_entry ([.ref a]) (n := 1) (Nat.le_of_ble_eq_true rfl)
  rw [lg_entry_eq]
  generalize (lg_sl ([.ref a]) ++ List.replicate (1 - (lg_sl ([.ref a])).length) Slot.unset).toArray = ls at hl ⊢
  have hl : lv_has ls 1 [(0, .ref a)] := hl
  refine lv_aload_n hx hb dX0_init_0 rfl (lv_at hl 0 rfl) ?_
  refine W.objInit hx hb hown (hts _ (wm 1 rfl)) (hts _ (wm 2 rfl)) (hts _ (wm 3 rfl)) rfl (by rw [hml]; exact hl.1) rfl dX0_init_1 (Nat.le_of_ble_eq_true rfl) (Nat.le_of_ble_eq_true rfl) ?_
  refine W.eq (g2 := F0 m 4 ls []) rfl ?_
  refine lv_aload_n hx hb dX0_init_4 rfl (lv_at hl 0 rfl) ?_
  refine ic_new (ci := 9) (fs := [.null, .int 0]) (C := RX9) (T := TX9) (N := 2) hx hb hts hi9 tyX9 tyX9_ok hown (hts _ (wm 4 rfl)) (hts _ (wm 5 rfl)) (hts _ (wm 6 rfl)) hK.1 hW hA rfl (fun j hj => by rcases (show j = 0 ∨ j = 1 by omega) with rfl | rfl <;> rfl) (Nat.le_of_ble_eq_true rfl) (Nat.le_of_ble_eq_true rfl) dX0_init_5 (fun q1 H hW => ?_)
  refine lv_dup hx hb dX0_init_8 rfl ?_
  refine ic_call (va_runIN (As := []) (rest := [.ref q1, .ref a]) ⟨hx, hb, hml, hown, hts⟩ (c_X9_init l D cA q1 H.size) ⟨va_cnB 0 hts gX0_init_X9_init_n11 rfl rfl rfl hK.1.2.2.2.2.2.2.1 (hts _ (wm 6 rfl)) (by decide +kernel) ⟨(Nat.le_of_ble_eq_true rfl), (Nat.le_of_ble_eq_true rfl)⟩, rfl, (hts _ (wm 8 rfl))⟩ (ic_pre hK hW) rfl rfl hl.1 rfl (lv_room (Nat.le_of_ble_eq_true rfl)) dX0_init_9 ⟨(Nat.le_of_ble_eq_true rfl), (Nat.le_of_ble_eq_true rfl)⟩) hW hA (fun u2 H locs hu2 hW1 => ?_)
  have hW := hW1
  have hW : ic_W D ([(a, .inr (0, [.null, .int 0, .int 0, .int 0, .int 0, .int 0, .int 0, .int 0])), (q1, .inr (9, [.ref u2, .int 0])), (u2, .inl (cA 0, 100, .inl (fun _ => 0)))]) (ic_A a s.heap.size) s.heap H _ := hW
  refine ic_putF (ci := 0) (v := .ref q1) (C := RX0) (T := TX0) (N := 8) hx hb hts hi0 tyX0 tyX0_ok nmX0 hown hK.1 hW 0 rfl rfl 0 (by decide) (hts _ (wm 7 rfl)) rfl hin rfl (tyX0_ok 0 (by decide)) rfl rfl (Nat.le_of_ble_eq_true rfl) dX0_init_12 (fun H locs hW => ?_)
  have hW : ic_W D ([(a, .inr (0, [.ref q1, .int 0, .int 0, .int 0, .int 0, .int 0, .int 0, .int 0])), (q1, .inr (9, [.ref u2, .int 0])), (u2, .inl (cA 0, 100, .inl (fun _ => 0)))]) (ic_A a s.heap.size) s.heap H _ := hW
  refine W.widen (k := 2) (n := 102) (Nat.le_of_ble_eq_true rfl) (Nat.le_of_ble_eq_true rfl) ?_
  exact ic_vret hx hb hr0 hlocks (q1, u2) trivial hW dX0_init_15
set_option maxHeartbeats 4000000 in
set_option maxRecDepth 100000 in
theorem c_X6_init (l : Launch) (D : va_G) (cA : Nat → ClassId) (a sz : Nat) : Met l yX6_init wsX6_init ({ frames := 2, cells := 13, slots := 84, locals := 32 }) (ic_P D cA 6 [.null, .int 0] a sz) (ic_Q D a sz (fun u : Nat × List Nat => u.2.length = 12) (fun u => [(a, .inr (6, [.ref u.1, .int 0])), (u.1, .inl (cA 4, 12, .inr (.inr (.inr (.inr (ic_rf (fun z : Nat => z) u.2))))))] ++ u.2.map (fun z : Nat => ((z, .inr (5, [.int 0, .int 0, .int 0, .int 0, .int 0, .int 0])) : Nat × va_E)))) 13 84 (ic_A a sz) := by
  refine Met.ofW (cc := cX6_init) (maxL := 2) (ret := none) (by decide) rfl ?_
  intro p e s m args below meth c s₁ B hml hv
  obtain ⟨rfl, hsz, hP, hK⟩ := hv
  have hx := B.exec
  have hb := B.bytes
  have hr0 := B.returns
  have hts := atoms_spec (ws := wsX6_init) B.pre
  have hown : s.vm.findClass RX6 = some m.cls := findClass_of_methodNamed B.named
  have hlocks := B.notSynchronized
  have hin : meth.name = "<init>" := (name_of_methodNamed B.named B.method).1
  subst hsz
  have hP : va_P D vwCl [(a, .inr (6, [.null, .int 0]))] s.heap := hP
  have hW := ic_start hP
  have hA : ∀ q : Nat, s.heap.size ≤ q → ic_A a s.heap.size q := fun q h => Or.inr h
  have hi5 : ∀ w ∈ wsX50, w ∈ wsX6_init := fun w h => List.mem_cons_of_mem _ (List.mem_append_right _ h)
  have hi6 : ∀ w ∈ wsX60, w ∈ wsX6_init := fun w h => List.mem_cons_of_mem _ (List.mem_append_left _ (List.mem_append_right _ h))
  have hl := lv_entry ([.ref a]) (n := 2) (Nat.le_of_ble_eq_true rfl)
  rw [lg_entry_eq]
  generalize (lg_sl ([.ref a]) ++ List.replicate (2 - (lg_sl ([.ref a])).length) Slot.unset).toArray = ls at hl ⊢
  have hl : lv_has ls 2 [(0, .ref a)] := hl
  refine lv_aload_n hx hb dX6_init_0 rfl (lv_at hl 0 rfl) ?_
  refine W.objInit hx hb hown (hts _ (wm 1 rfl)) (hts _ (wm 2 rfl)) (hts _ (wm 3 rfl)) rfl (by rw [hml]; exact hl.1) rfl dX6_init_1 (Nat.le_of_ble_eq_true rfl) (Nat.le_of_ble_eq_true rfl) ?_
  refine W.eq (g2 := F0 m 4 ls []) rfl ?_
  refine lv_aload_n hx hb dX6_init_4 rfl (lv_at hl 0 rfl) ?_
  refine lv_bipush (v := (12 : Int32)) hx hb dX6_init_5 (by decide) ?_
  refine ic_newq (C := "TransitMeter$Round") hx hb hown (hts _ (wm 4 rfl)) hK.2.2.1 hK.1 4 rfl hW hA (by decide) (show Int32.toNatClampNeg 12 = 12 by decide) (Nat.le_of_ble_eq_true rfl) (Nat.le_of_ble_eq_true rfl) (Nat.le_of_ble_eq_true rfl) dX6_init_7 (fun q1 H hW => ?_)
  have hW : ic_W D ([(a, .inr (6, [.null, .int 0])), (q1, .inl (cA 4, 12, .inr (.inr (.inr (.inr (fun _ => none))))))]) (ic_A a s.heap.size) s.heap H _ := hW
  refine ic_putF (ci := 6) (v := .ref q1) (C := RX6) (T := TX6) (N := 2) hx hb hts hi6 tyX6 tyX6_ok nmX6 hown hK.1 hW 0 rfl rfl 0 (by decide) (hts _ (wm 5 rfl)) rfl hin rfl (tyX6_ok 0 (by decide)) rfl rfl (Nat.le_of_ble_eq_true rfl) dX6_init_10 (fun H locs hW => ?_)
  have hW : ic_W D ([(a, .inr (6, [.ref q1, .int 0])), (q1, .inl (cA 4, 12, .inr (.inr (.inr (.inr (fun _ => none))))))]) (ic_A a s.heap.size) s.heap H _ := hW
  refine lv_iconst (v := (0 : Int32)) hx hb dX6_init_13 (by decide) ?_
  refine lv_istore_n (lv' := [(1, .int (0 : Int32)), (0, .ref a)]) hx hb dX6_init_14 rfl hl (by decide) rfl (fun ls hl => ?_)
  have hL : ∀ (n : Nat) (zs : List Nat) (H : Heap) (locs : List Loc) (ls : Array Slot), zs.length + n = 12 → ic_W D ([(a, .inr (6, [.ref q1, .int 0])), (q1, .inl (cA 4, 12, .inr (.inr (.inr (.inr (ic_rf (fun z : Nat => z) zs))))))] ++ zs.map (fun z : Nat => ((z, .inr (5, [.int 0, .int 0, .int 0, .int 0, .int 0, .int 0])) : Nat × va_E))) (ic_A a s.heap.size) s.heap H locs → lv_has ls 2 [(1, .int (nI zs.length)), (0, .ref a)] → W p l e (headSpec wsX6_init { frames := 2, cells := 13, slots := 84, locals := 32 }).room s m ([.ref a] : List Value).toArray below meth c H locs (1 + zs.length * 1) (12 + zs.length * 6) (MQ below (ic_Q D a s.heap.size (fun u : Nat × List Nat => u.2.length = 12) (fun u => [(a, .inr (6, [.ref u.1, .int 0])), (u.1, .inl (cA 4, 12, .inr (.inr (.inr (.inr (ic_rf (fun z : Nat => z) u.2))))))] ++ u.2.map (fun z : Nat => ((z, .inr (5, [.int 0, .int 0, .int 0, .int 0, .int 0, .int 0])) : Nat × va_E)))) ([.ref a] : List Value).toArray s 13 84 (ic_A a s.heap.size)) (F0 m 15 ls []) := by
    intro n
    induction n with
    | zero =>
      intro zs H locs ls hn hW hl
      refine lv_iload_n hx hb dX6_init_15 rfl (lv_at hl 0 rfl) ?_
      refine lv_bipush (v := (12 : Int32)) hx hb dX6_init_16 (by decide) ?_
      refine lv_icmp_ge (tgt := 40) hx hb dX6_init_18 (by decide) (fun _ => ?_) (fun c1 => absurd (show (12 : Int32) ≤ nI zs.length by rw [show zs.length = 12 by omega]; decide) c1)
      refine W.widen (k := 13) (n := 84) (by omega) (by omega) ?_
      exact ic_vret hx hb hr0 hlocks (q1, zs) (by show zs.length = 12; omega) hW dX6_init_40
    | succ n ih =>
      intro zs H locs ls hn hW hl
      refine lv_iload_n hx hb dX6_init_15 rfl (lv_at hl 0 rfl) ?_
      refine lv_bipush (v := (12 : Int32)) hx hb dX6_init_16 (by decide) ?_
      refine lv_icmp_ge (tgt := 40) hx hb dX6_init_18 (by decide) (fun c1 => absurd c1 (show ¬ (12 : Int32) ≤ nI zs.length from nI_ge (b := 12) (by omega) (by decide))) (fun _ => ?_)
      refine lv_aload_n hx hb dX6_init_21 rfl (lv_at hl 1 rfl) ?_
      refine ic_get (C := RX6) (T := TX6) (N := 2) hx hb hts hi6 hown hK.1 hW 0 rfl rfl 0 (by decide) (hts _ (wm 5 rfl)) (v := .ref q1) rfl dX6_init_22 ?_
      refine lv_iload_n hx hb dX6_init_25 rfl (lv_at hl 0 rfl) ?_
      refine ic_new (ci := 5) (fs := [.int 0, .int 0, .int 0, .int 0, .int 0, .int 0]) (C := RX5) (T := TX5) (N := 6) hx hb hts hi5 tyX5 tyX5_ok hown (hts _ (wm 4 rfl)) (hts _ (wm 6 rfl)) (hts _ (wm 7 rfl)) hK.1 hW hA rfl (fun j hj => by rcases (show j = 0 ∨ j = 1 ∨ j = 2 ∨ j = 3 ∨ j = 4 ∨ j = 5 by omega) with rfl | rfl | rfl | rfl | rfl | rfl <;> rfl) (by show _ ≤ 13; omega) (by show _ ≤ 84; omega) dX6_init_26 (fun q2 H hW => ?_)
      refine lv_dup hx hb dX6_init_29 rfl ?_
      refine ic_call (va_runIN (As := []) (rest := [.ref q2, .int (nI zs.length), .ref q1]) ⟨hx, hb, hml, hown, hts⟩ (c_X5_init l D cA q2 H.size) ⟨va_cnB 0 hts gX6_init_X5_init_n17 rfl rfl rfl hK.1.2.2.1 (hts _ (wm 7 rfl)) (by decide +kernel) ⟨(Nat.le_of_ble_eq_true rfl), (Nat.le_of_ble_eq_true rfl)⟩, rfl, (hts _ (wm 8 rfl))⟩ (ic_pre hK hW) rfl rfl hl.1 rfl (lv_room (Nat.le_of_ble_eq_true rfl)) dX6_init_30 ⟨(by show _ ≤ 13; omega), (by show _ ≤ 84; omega)⟩) hW hA (fun u H locs hu hW1 => ?_)
      have hW := hW1
      refine ic_aast (v := q2) (r := (RX5, TX5, 6)) hx hb hK.1 hW 1 4 _ 5 rfl rfl (ic_last) rfl (inb_n (show zs.length < 12 by omega) (by decide)) dX6_init_33 (fun H locs hW => ?_)
      have e1 : va_up (ic_rf (fun z : Nat => z) zs) (ix (nI zs.length)) (some q2) = ic_rf (fun z : Nat => z) (zs ++ [q2]) := ic_up (fun z : Nat => z) zs q2 (ix_n (by omega))
      have hW : ic_W D (([(a, .inr (6, [.ref q1, .int 0])), (q1, .inl (cA 4, 12, .inr (.inr (.inr (.inr (va_up (ic_rf (fun z : Nat => z) zs) (ix (nI zs.length)) (some q2)))))))] ++ zs.map (fun z : Nat => ((z, .inr (5, [.int 0, .int 0, .int 0, .int 0, .int 0, .int 0])) : Nat × va_E))) ++ [(q2, .inr (5, [.int 0, .int 0, .int 0, .int 0, .int 0, .int 0]))]) (ic_A a s.heap.size) s.heap H _ := hW
      rw [e1] at hW
      have hW := hW.asc
      rw [show zs.map (fun z : Nat => ((z, .inr (5, [.int 0, .int 0, .int 0, .int 0, .int 0, .int 0])) : Nat × va_E)) ++ [(q2, .inr (5, [.int 0, .int 0, .int 0, .int 0, .int 0, .int 0]))] = (zs ++ [q2]).map (fun z : Nat => ((z, .inr (5, [.int 0, .int 0, .int 0, .int 0, .int 0, .int 0])) : Nat × va_E)) from by rw [List.map_append]; rfl] at hW
      obtain ⟨v, ev⟩ : ∃ y : Int32, y = nI zs.length + 1 := ⟨_, rfl⟩
      refine lv_iinc (v := v) (lv' := [(1, .int v), (0, .ref a)]) hx hb dX6_init_34 hl (k := 0) rfl (by rw [ev]; rfl) (by decide) rfl (fun ls hl => ?_)
      rw [ev, ← nI_succ] at hl
      refine lv_goto (tgt := 15) hx hb dX6_init_37 (by decide) ?_
      refine W.widen (k := 1 + (zs ++ [q2]).length * 1) (n := 12 + (zs ++ [q2]).length * 6) (by rw [List.length_append]; show _ ≤ _ + (zs.length + 1) * _; omega) (by rw [List.length_append]; show _ ≤ _ + (zs.length + 1) * _; omega) ?_
      exact ih (zs ++ [q2]) _ _ _ (by rw [List.length_append]; show zs.length + 1 + n = 12; omega) hW (by rw [List.length_append]; exact hl)
  refine W.widen (k := 1 + ([] : List Nat).length * 1) (n := 12 + ([] : List Nat).length * 6) (Nat.le_of_ble_eq_true rfl) (Nat.le_of_ble_eq_true rfl) ?_
  refine hL 12 [] _ _ _ rfl ?_ hl
  show ic_W D ([(a, .inr (6, [.ref q1, .int 0])), (q1, .inl (cA 4, 12, .inr (.inr (.inr (.inr (ic_rf (fun z : Nat => z) ([] : List Nat)))))))] ++ ([] : List Nat).map (fun z : Nat => ((z, .inr (5, [.int 0, .int 0, .int 0, .int 0, .int 0, .int 0])) : Nat × va_E))) (ic_A a s.heap.size) s.heap _ _
  rw [← ic_rf0 (fun z : Nat => z)]
  have e0 : ([] : List Nat).map (fun z : Nat => ((z, .inr (5, [.int 0, .int 0, .int 0, .int 0, .int 0, .int 0])) : Nat × va_E)) = [] := rfl
  rw [e0, List.append_nil]
  exact hW

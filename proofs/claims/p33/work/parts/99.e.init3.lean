/-! CONSTRUCTORS, 6: the meter, the model -/
set_option maxHeartbeats 4000000 in
set_option maxRecDepth 100000 in
theorem c_X10_init (l : Launch) (D : va_G) (cA : Nat → ClassId) (a sz : Nat) : Met l yX10_init wsX10_init ({ frames := 5, cells := 237, slots := 1752, locals := 95 }) (ic_P D cA 10 [.null, .null, .null, .null, .null, .null, .null] a sz) (ic_Q D a sz (fun u : Nat → Nat => u 224 = a) (fun u => XW true cA u ic_MX)) 237 1752 (ic_A a sz) := by
  refine Met.ofW (cc := cX10_init) (maxL := 1) (ret := none) (by decide) rfl ?_
  intro p e s m args below meth c s₁ B hml hv
  obtain ⟨rfl, hsz, hP, hK⟩ := hv
  have hx := B.exec
  have hb := B.bytes
  have hr0 := B.returns
  have hts := atoms_spec (ws := wsX10_init) B.pre
  have hown : s.vm.findClass RX10 = some m.cls := findClass_of_methodNamed B.named
  have hlocks := B.notSynchronized
  have hin : meth.name = "<init>" := (name_of_methodNamed B.named B.method).1
  subst hsz
  have hP : va_P D vwCl [(a, .inr (10, [.null, .null, .null, .null, .null, .null, .null]))] s.heap := hP
  have hW := ic_start hP
  have hA : ∀ q : Nat, s.heap.size ≤ q → ic_A a s.heap.size q := fun q h => Or.inr h
  have hi0 : ∀ w ∈ wsX00, w ∈ wsX10_init := fun w h => List.mem_cons_of_mem _ (List.mem_append_left _ (List.mem_append_left _ (List.mem_append_left _ (List.mem_append_left _ (List.mem_append_left _ (List.mem_append_left _ (List.mem_append_left _ (List.mem_append_right _ h))))))))
  have hi1 : ∀ w ∈ wsX10, w ∈ wsX10_init := fun w h => List.mem_cons_of_mem _ (List.mem_append_left _ (List.mem_append_left _ (List.mem_append_left _ (List.mem_append_left _ (List.mem_append_left _ (List.mem_append_left _ (List.mem_append_left _ (List.mem_append_left _ (List.mem_append_right _ h)))))))))
  have hi2 : ∀ w ∈ wsX20, w ∈ wsX10_init := fun w h => List.mem_cons_of_mem _ (List.mem_append_left _ (List.mem_append_left _ (List.mem_append_left _ (List.mem_append_left _ (List.mem_append_left _ (List.mem_append_left _ (List.mem_append_right _ h)))))))
  have hi8 : ∀ w ∈ wsX80, w ∈ wsX10_init := fun w h => List.mem_cons_of_mem _ (List.mem_append_left _ (List.mem_append_left _ (List.mem_append_left _ (List.mem_append_left _ (List.mem_append_left _ (List.mem_append_left _ (List.mem_append_left _ (List.mem_append_left _ (List.mem_append_left _ (List.mem_append_left _ (List.mem_append_right _ h)))))))))))
  have hi10 : ∀ w ∈ wsX100, w ∈ wsX10_init := fun w h => List.mem_cons_of_mem _ (List.mem_append_left _ (List.mem_append_left _ (List.mem_append_left _ (List.mem_append_left _ (List.mem_append_left _ (List.mem_append_left _ (List.mem_append_left _ (List.mem_append_left _ (List.mem_append_left _ (List.mem_append_right _ h))))))))))
  have hl := lv_entry ([.ref a]) (n := 1) (Nat.le_of_ble_eq_true rfl)
  rw [lg_entry_eq]
  generalize (lg_sl ([.ref a]) ++ List.replicate (1 - (lg_sl ([.ref a])).length) Slot.unset).toArray = ls at hl ⊢
  have hl : lv_has ls 1 [(0, .ref a)] := hl
  refine lv_aload_n hx hb dX10_init_0 rfl (lv_at hl 0 rfl) ?_
  refine W.objInit hx hb hown (hts _ (wm 1 rfl)) (hts _ (wm 2 rfl)) (hts _ (wm 3 rfl)) rfl (by rw [hml]; exact hl.1) rfl dX10_init_1 (Nat.le_of_ble_eq_true rfl) (Nat.le_of_ble_eq_true rfl) ?_
  refine W.eq (g2 := F0 m 4 ls []) rfl ?_
  refine lv_aload_n hx hb dX10_init_4 rfl (lv_at hl 0 rfl) ?_
  refine ic_new (ci := 8) (fs := [.null, .int 0, .null, .null, .int 0, .null, .int 0, .int 0, .long 0, .long 0]) (C := RX8) (T := TX8) (N := 10) hx hb hts hi8 tyX8 tyX8_ok hown (hts _ (wm 4 rfl)) (hts _ (wm 5 rfl)) (hts _ (wm 6 rfl)) hK.1 hW hA rfl (fun j hj => by rcases (show j = 0 ∨ j = 1 ∨ j = 2 ∨ j = 3 ∨ j = 4 ∨ j = 5 ∨ j = 6 ∨ j = 7 ∨ j = 8 ∨ j = 9 by omega) with rfl | rfl | rfl | rfl | rfl | rfl | rfl | rfl | rfl | rfl <;> rfl) (Nat.le_of_ble_eq_true rfl) (Nat.le_of_ble_eq_true rfl) dX10_init_5 (fun q1 H hW => ?_)
  refine lv_dup hx hb dX10_init_8 rfl ?_
  refine ic_call (va_runI (As := []) (rest := [.ref q1, .ref a]) ⟨hx, hb, hml, hown, hts⟩ (c_X8_init l D cA q1 H.size) (cwI 0 hts gX10_init_X8_init rfl rfl rfl (hts _ (wm 6 rfl)) (hts _ (wm 25 rfl)) (hts _ (wm 26 rfl)) rfl (by decide +kernel) ⟨(Nat.le_of_ble_eq_true rfl), (Nat.le_of_ble_eq_true rfl)⟩) (ic_pre hK hW) rfl rfl hl.1 rfl (lv_room (Nat.le_of_ble_eq_true rfl)) dX10_init_9 ⟨(Nat.le_of_ble_eq_true rfl), (Nat.le_of_ble_eq_true rfl)⟩) hW hA (fun u2 H locs hu2 hW1 => ?_)
  have hu2 : u2 0 = q1 := hu2
  subst hu2
  have hW := hW1
  have hW : ic_W D (([(a, .inr (10, [.null, .null, .null, .null, .null, .null, .null]))] ++ ic_B cA u2)) (ic_A a s.heap.size) s.heap H _ := hW
  refine ic_putF (ci := 10) (v := .ref (u2 0)) (C := RX10) (T := TX10) (N := 7) hx hb hts hi10 tyX10 tyX10_ok nmX10 hown hK.1 hW 0 rfl rfl 0 (by decide) (hts _ (wm 7 rfl)) rfl hin rfl (tyX10_ok 0 (by decide)) rfl rfl (Nat.le_of_ble_eq_true rfl) dX10_init_12 (fun H locs hW => ?_)
  have hW : ic_W D (([(a, .inr (10, [.ref (u2 0), .null, .null, .null, .null, .null, .null]))] ++ ic_B cA u2)) (ic_A a s.heap.size) s.heap H _ := hW
  refine lv_aload_n hx hb dX10_init_15 rfl (lv_at hl 0 rfl) ?_
  refine ic_new (ci := 1) (fs := [.null, .int 0]) (C := RX1) (T := TX1) (N := 2) hx hb hts hi1 tyX1 tyX1_ok hown (hts _ (wm 8 rfl)) (hts _ (wm 9 rfl)) (hts _ (wm 10 rfl)) hK.1 hW hA rfl (fun j hj => by rcases (show j = 0 ∨ j = 1 by omega) with rfl | rfl <;> rfl) (Nat.le_of_ble_eq_true rfl) (Nat.le_of_ble_eq_true rfl) dX10_init_16 (fun q3 H hW => ?_)
  refine lv_dup hx hb dX10_init_19 rfl ?_
  refine ic_call (va_runI (As := []) (rest := [.ref q3, .ref a]) ⟨hx, hb, hml, hown, hts⟩ (c_X1_init l D cA q3 H.size) (cwI 0 hts gX10_init_X1_init rfl rfl rfl (hts _ (wm 10 rfl)) (hts _ (wm 72 rfl)) (hts _ (wm 73 rfl)) rfl (by decide +kernel) ⟨(Nat.le_of_ble_eq_true rfl), (Nat.le_of_ble_eq_true rfl)⟩) (ic_pre hK hW) rfl rfl hl.1 rfl (lv_room (Nat.le_of_ble_eq_true rfl)) dX10_init_20 ⟨(Nat.le_of_ble_eq_true rfl), (Nat.le_of_ble_eq_true rfl)⟩) hW hA (fun u4 H locs hu4 hW1 => ?_)
  have hW := hW1
  obtain ⟨u4_0, zs⟩ := u4
  have hu4 : zs.length = 5 := hu4
  have hW := hW.swap3
  have hW : ic_W D (([(a, .inr (10, [.ref (u2 0), .null, .null, .null, .null, .null, .null])), (q3, .inr (1, [.ref u4_0, .int 0])), (u4_0, .inl (cA 5, 5, .inr (.inr (.inr (.inr (ic_rf (fun z : Nat → Nat => z 0) zs))))))] ++ (ic_B cA u2 ++ zs.flatMap (ic_B cA)))) (ic_A a s.heap.size) s.heap H _ := hW
  refine ic_putF (ci := 10) (v := .ref q3) (C := RX10) (T := TX10) (N := 7) hx hb hts hi10 tyX10 tyX10_ok nmX10 hown hK.1 hW 0 rfl rfl 1 (by decide) (hts _ (wm 11 rfl)) rfl hin rfl (tyX10_ok 1 (by decide)) rfl rfl (Nat.le_of_ble_eq_true rfl) dX10_init_23 (fun H locs hW => ?_)
  have hW : ic_W D (([(a, .inr (10, [.ref (u2 0), .ref q3, .null, .null, .null, .null, .null])), (q3, .inr (1, [.ref u4_0, .int 0])), (u4_0, .inl (cA 5, 5, .inr (.inr (.inr (.inr (ic_rf (fun z : Nat → Nat => z 0) zs))))))] ++ (ic_B cA u2 ++ zs.flatMap (ic_B cA)))) (ic_A a s.heap.size) s.heap H _ := hW
  refine lv_aload_n hx hb dX10_init_26 rfl (lv_at hl 0 rfl) ?_
  refine lv_iconst (v := (2 : Int32)) hx hb dX10_init_27 (by decide) ?_
  refine ic_newq (C := "TransitMeter$State") hx hb hown (hts _ (wm 4 rfl)) hK.2.2.2 hK.1 5 rfl hW hA (by decide) (show Int32.toNatClampNeg 2 = 2 by decide) (Nat.le_of_ble_eq_true rfl) (Nat.le_of_ble_eq_true rfl) (Nat.le_of_ble_eq_true rfl) dX10_init_28 (fun q5 H hW => ?_)
  have hW := hW.swap
  have hW : ic_W D (([(a, .inr (10, [.ref (u2 0), .ref q3, .null, .null, .null, .null, .null])), (q3, .inr (1, [.ref u4_0, .int 0])), (u4_0, .inl (cA 5, 5, .inr (.inr (.inr (.inr (ic_rf (fun z : Nat → Nat => z 0) zs)))))), (q5, .inl (cA 5, 2, .inr (.inr (.inr (.inr (fun _ => none))))))] ++ (ic_B cA u2 ++ zs.flatMap (ic_B cA)))) (ic_A a s.heap.size) s.heap H _ := hW
  refine lv_dup hx hb dX10_init_31 rfl ?_
  refine lv_iconst (v := (0 : Int32)) hx hb dX10_init_32 (by decide) ?_
  refine ic_new (ci := 8) (fs := [.null, .int 0, .null, .null, .int 0, .null, .int 0, .int 0, .long 0, .long 0]) (C := RX8) (T := TX8) (N := 10) hx hb hts hi8 tyX8 tyX8_ok hown (hts _ (wm 4 rfl)) (hts _ (wm 5 rfl)) (hts _ (wm 6 rfl)) hK.1 hW hA rfl (fun j hj => by rcases (show j = 0 ∨ j = 1 ∨ j = 2 ∨ j = 3 ∨ j = 4 ∨ j = 5 ∨ j = 6 ∨ j = 7 ∨ j = 8 ∨ j = 9 by omega) with rfl | rfl | rfl | rfl | rfl | rfl | rfl | rfl | rfl | rfl <;> rfl) (Nat.le_of_ble_eq_true rfl) (Nat.le_of_ble_eq_true rfl) dX10_init_33 (fun q6 H hW => ?_)
  refine lv_dup hx hb dX10_init_36 rfl ?_
  refine ic_call (va_runI (As := []) (rest := [.ref q6, .int (0 : Int32), .ref q5, .ref q5, .ref a]) ⟨hx, hb, hml, hown, hts⟩ (c_X8_init l D cA q6 H.size) (cwI 0 hts gX10_init_X8_init rfl rfl rfl (hts _ (wm 6 rfl)) (hts _ (wm 25 rfl)) (hts _ (wm 26 rfl)) rfl (by decide +kernel) ⟨(Nat.le_of_ble_eq_true rfl), (Nat.le_of_ble_eq_true rfl)⟩) (ic_pre hK hW) rfl rfl hl.1 rfl (lv_room (Nat.le_of_ble_eq_true rfl)) dX10_init_37 ⟨(Nat.le_of_ble_eq_true rfl), (Nat.le_of_ble_eq_true rfl)⟩) hW hA (fun u7 H locs hu7 hW1 => ?_)
  have hu7 : u7 0 = q6 := hu7
  subst hu7
  have hW := hW1
  refine ic_aast (v := (u7 0)) (r := (RX8, TX8, 10)) hx hb hK.1 hW 3 5 _ 8 rfl rfl ic_B_first rfl (by decide) dX10_init_40 (fun H locs hW => ?_)
  have hW : ic_W D (([(a, .inr (10, [.ref (u2 0), .ref q3, .null, .null, .null, .null, .null])), (q3, .inr (1, [.ref u4_0, .int 0])), (u4_0, .inl (cA 5, 5, .inr (.inr (.inr (.inr (ic_rf (fun z : Nat → Nat => z 0) zs)))))), (q5, .inl (cA 5, 2, .inr (.inr (.inr (.inr (va_up (fun _ => none) (ix (0 : Int32)) (some (u7 0))))))))] ++ (ic_B cA u2 ++ zs.flatMap (ic_B cA))) ++ ic_B cA u7) (ic_A a s.heap.size) s.heap H _ := hW
  have hW := hW.asc
  have hW : ic_W D (([(a, .inr (10, [.ref (u2 0), .ref q3, .null, .null, .null, .null, .null])), (q3, .inr (1, [.ref u4_0, .int 0])), (u4_0, .inl (cA 5, 5, .inr (.inr (.inr (.inr (ic_rf (fun z : Nat → Nat => z 0) zs)))))), (q5, .inl (cA 5, 2, .inr (.inr (.inr (.inr (va_up (fun _ => none) (ix (0 : Int32)) (some (u7 0))))))))] ++ ((ic_B cA u2 ++ zs.flatMap (ic_B cA)) ++ ic_B cA u7))) (ic_A a s.heap.size) s.heap H _ := hW
  refine lv_dup hx hb dX10_init_41 rfl ?_
  refine lv_iconst (v := (1 : Int32)) hx hb dX10_init_42 (by decide) ?_
  refine ic_new (ci := 8) (fs := [.null, .int 0, .null, .null, .int 0, .null, .int 0, .int 0, .long 0, .long 0]) (C := RX8) (T := TX8) (N := 10) hx hb hts hi8 tyX8 tyX8_ok hown (hts _ (wm 4 rfl)) (hts _ (wm 5 rfl)) (hts _ (wm 6 rfl)) hK.1 hW hA rfl (fun j hj => by rcases (show j = 0 ∨ j = 1 ∨ j = 2 ∨ j = 3 ∨ j = 4 ∨ j = 5 ∨ j = 6 ∨ j = 7 ∨ j = 8 ∨ j = 9 by omega) with rfl | rfl | rfl | rfl | rfl | rfl | rfl | rfl | rfl | rfl <;> rfl) (Nat.le_of_ble_eq_true rfl) (Nat.le_of_ble_eq_true rfl) dX10_init_43 (fun q8 H hW => ?_)
  refine lv_dup hx hb dX10_init_46 rfl ?_
  refine ic_call (va_runI (As := []) (rest := [.ref q8, .int (1 : Int32), .ref q5, .ref q5, .ref a]) ⟨hx, hb, hml, hown, hts⟩ (c_X8_init l D cA q8 H.size) (cwI 0 hts gX10_init_X8_init rfl rfl rfl (hts _ (wm 6 rfl)) (hts _ (wm 25 rfl)) (hts _ (wm 26 rfl)) rfl (by decide +kernel) ⟨(Nat.le_of_ble_eq_true rfl), (Nat.le_of_ble_eq_true rfl)⟩) (ic_pre hK hW) rfl rfl hl.1 rfl (lv_room (Nat.le_of_ble_eq_true rfl)) dX10_init_47 ⟨(Nat.le_of_ble_eq_true rfl), (Nat.le_of_ble_eq_true rfl)⟩) hW hA (fun u9 H locs hu9 hW1 => ?_)
  have hu9 : u9 0 = q8 := hu9
  subst hu9
  have hW := hW1
  refine ic_aast (v := (u9 0)) (r := (RX8, TX8, 10)) hx hb hK.1 hW 3 5 _ 8 rfl rfl ic_B_first rfl (by decide) dX10_init_50 (fun H locs hW => ?_)
  have hW : ic_W D (([(a, .inr (10, [.ref (u2 0), .ref q3, .null, .null, .null, .null, .null])), (q3, .inr (1, [.ref u4_0, .int 0])), (u4_0, .inl (cA 5, 5, .inr (.inr (.inr (.inr (ic_rf (fun z : Nat → Nat => z 0) zs)))))), (q5, .inl (cA 5, 2, .inr (.inr (.inr (.inr (va_up (va_up (fun _ => none) (ix (0 : Int32)) (some (u7 0))) (ix (1 : Int32)) (some (u9 0))))))))] ++ ((ic_B cA u2 ++ zs.flatMap (ic_B cA)) ++ ic_B cA u7)) ++ ic_B cA u9) (ic_A a s.heap.size) s.heap H _ := hW
  have hW := hW.asc
  have hW : ic_W D (([(a, .inr (10, [.ref (u2 0), .ref q3, .null, .null, .null, .null, .null])), (q3, .inr (1, [.ref u4_0, .int 0])), (u4_0, .inl (cA 5, 5, .inr (.inr (.inr (.inr (ic_rf (fun z : Nat → Nat => z 0) zs)))))), (q5, .inl (cA 5, 2, .inr (.inr (.inr (.inr (va_up (va_up (fun _ => none) (ix (0 : Int32)) (some (u7 0))) (ix (1 : Int32)) (some (u9 0))))))))] ++ (((ic_B cA u2 ++ zs.flatMap (ic_B cA)) ++ ic_B cA u7) ++ ic_B cA u9))) (ic_A a s.heap.size) s.heap H _ := hW
  refine ic_putF (ci := 10) (v := .ref q5) (C := RX10) (T := TX10) (N := 7) hx hb hts hi10 tyX10 tyX10_ok nmX10 hown hK.1 hW 0 rfl rfl 2 (by decide) (hts _ (wm 12 rfl)) rfl hin rfl (tyX10_ok 2 (by decide)) rfl rfl (Nat.le_of_ble_eq_true rfl) dX10_init_51 (fun H locs hW => ?_)
  have hW : ic_W D (([(a, .inr (10, [.ref (u2 0), .ref q3, .ref q5, .null, .null, .null, .null])), (q3, .inr (1, [.ref u4_0, .int 0])), (u4_0, .inl (cA 5, 5, .inr (.inr (.inr (.inr (ic_rf (fun z : Nat → Nat => z 0) zs)))))), (q5, .inl (cA 5, 2, .inr (.inr (.inr (.inr (va_up (va_up (fun _ => none) (ix (0 : Int32)) (some (u7 0))) (ix (1 : Int32)) (some (u9 0))))))))] ++ (((ic_B cA u2 ++ zs.flatMap (ic_B cA)) ++ ic_B cA u7) ++ ic_B cA u9))) (ic_A a s.heap.size) s.heap H _ := hW
  refine lv_aload_n hx hb dX10_init_54 rfl (lv_at hl 0 rfl) ?_
  refine lv_iconst (v := (2 : Int32)) hx hb dX10_init_55 (by decide) ?_
  refine ic_newa (atype := .boolean) (ty := .boolean) (a0 := (2, .inl (fun _ => 0))) hx hb (hts _ (wm 13 rfl)) rfl hK.1 2 rfl hW hA (fun _ => rfl) (by decide) (show Int32.toNatClampNeg 2 = 2 by decide) (Nat.le_of_ble_eq_true rfl) (Nat.le_of_ble_eq_true rfl) (Nat.le_of_ble_eq_true rfl) dX10_init_56 (fun q10 H hW => ?_)
  have hW := hW.swap
  have hW : ic_W D (([(a, .inr (10, [.ref (u2 0), .ref q3, .ref q5, .null, .null, .null, .null])), (q3, .inr (1, [.ref u4_0, .int 0])), (u4_0, .inl (cA 5, 5, .inr (.inr (.inr (.inr (ic_rf (fun z : Nat → Nat => z 0) zs)))))), (q5, .inl (cA 5, 2, .inr (.inr (.inr (.inr (va_up (va_up (fun _ => none) (ix (0 : Int32)) (some (u7 0))) (ix (1 : Int32)) (some (u9 0)))))))), (q10, .inl (cA 2, 2, .inl (fun _ => 0)))] ++ (((ic_B cA u2 ++ zs.flatMap (ic_B cA)) ++ ic_B cA u7) ++ ic_B cA u9))) (ic_A a s.heap.size) s.heap H _ := hW
  refine ic_putF (ci := 10) (v := .ref q10) (C := RX10) (T := TX10) (N := 7) hx hb hts hi10 tyX10 tyX10_ok nmX10 hown hK.1 hW 0 rfl rfl 3 (by decide) (hts _ (wm 14 rfl)) rfl hin rfl (tyX10_ok 3 (by decide)) rfl rfl (Nat.le_of_ble_eq_true rfl) dX10_init_58 (fun H locs hW => ?_)
  have hW : ic_W D (([(a, .inr (10, [.ref (u2 0), .ref q3, .ref q5, .ref q10, .null, .null, .null])), (q3, .inr (1, [.ref u4_0, .int 0])), (u4_0, .inl (cA 5, 5, .inr (.inr (.inr (.inr (ic_rf (fun z : Nat → Nat => z 0) zs)))))), (q5, .inl (cA 5, 2, .inr (.inr (.inr (.inr (va_up (va_up (fun _ => none) (ix (0 : Int32)) (some (u7 0))) (ix (1 : Int32)) (some (u9 0)))))))), (q10, .inl (cA 2, 2, .inl (fun _ => 0)))] ++ (((ic_B cA u2 ++ zs.flatMap (ic_B cA)) ++ ic_B cA u7) ++ ic_B cA u9))) (ic_A a s.heap.size) s.heap H _ := hW
  refine lv_aload_n hx hb dX10_init_61 rfl (lv_at hl 0 rfl) ?_
  refine ic_new (ci := 0) (fs := [.null, .int 0, .int 0, .int 0, .int 0, .int 0, .int 0, .int 0]) (C := RX0) (T := TX0) (N := 8) hx hb hts hi0 tyX0 tyX0_ok hown (hts _ (wm 15 rfl)) (hts _ (wm 16 rfl)) (hts _ (wm 17 rfl)) hK.1 hW hA rfl (fun j hj => by rcases (show j = 0 ∨ j = 1 ∨ j = 2 ∨ j = 3 ∨ j = 4 ∨ j = 5 ∨ j = 6 ∨ j = 7 by omega) with rfl | rfl | rfl | rfl | rfl | rfl | rfl | rfl <;> rfl) (Nat.le_of_ble_eq_true rfl) (Nat.le_of_ble_eq_true rfl) dX10_init_62 (fun q11 H hW => ?_)
  refine lv_dup hx hb dX10_init_65 rfl ?_
  refine ic_call (va_runIN (As := []) (rest := [.ref q11, .ref a]) ⟨hx, hb, hml, hown, hts⟩ (c_X0_init l D cA q11 H.size) ⟨va_cnB 0 hts gX10_init_X0_init_n33 rfl rfl rfl hK.1.2.2.2.2.2.1 (hts _ (wm 17 rfl)) (by decide +kernel) ⟨(Nat.le_of_ble_eq_true rfl), (Nat.le_of_ble_eq_true rfl)⟩, rfl, (hts _ (wm 79 rfl))⟩ (ic_pre hK hW) rfl rfl hl.1 rfl (lv_room (Nat.le_of_ble_eq_true rfl)) dX10_init_66 ⟨(Nat.le_of_ble_eq_true rfl), (Nat.le_of_ble_eq_true rfl)⟩) hW hA (fun u12 H locs hu12 hW1 => ?_)
  have hW := hW1
  obtain ⟨u12_0, u12_1⟩ := u12
  have hW := hW.swap
  have hW : ic_W D (([(a, .inr (10, [.ref (u2 0), .ref q3, .ref q5, .ref q10, .null, .null, .null])), (q3, .inr (1, [.ref u4_0, .int 0])), (u4_0, .inl (cA 5, 5, .inr (.inr (.inr (.inr (ic_rf (fun z : Nat → Nat => z 0) zs)))))), (q5, .inl (cA 5, 2, .inr (.inr (.inr (.inr (va_up (va_up (fun _ => none) (ix (0 : Int32)) (some (u7 0))) (ix (1 : Int32)) (some (u9 0)))))))), (q10, .inl (cA 2, 2, .inl (fun _ => 0))), (q11, .inr (0, [.ref u12_0, .int 0, .int 0, .int 0, .int 0, .int 0, .int 0, .int 0])), (u12_0, .inr (9, [.ref u12_1, .int 0])), (u12_1, .inl (cA 0, 100, .inl (fun _ => 0)))] ++ (((ic_B cA u2 ++ zs.flatMap (ic_B cA)) ++ ic_B cA u7) ++ ic_B cA u9))) (ic_A a s.heap.size) s.heap H _ := hW
  refine ic_putF (ci := 10) (v := .ref q11) (C := RX10) (T := TX10) (N := 7) hx hb hts hi10 tyX10 tyX10_ok nmX10 hown hK.1 hW 0 rfl rfl 4 (by decide) (hts _ (wm 18 rfl)) rfl hin rfl (tyX10_ok 4 (by decide)) rfl rfl (Nat.le_of_ble_eq_true rfl) dX10_init_69 (fun H locs hW => ?_)
  have hW : ic_W D (([(a, .inr (10, [.ref (u2 0), .ref q3, .ref q5, .ref q10, .ref q11, .null, .null])), (q3, .inr (1, [.ref u4_0, .int 0])), (u4_0, .inl (cA 5, 5, .inr (.inr (.inr (.inr (ic_rf (fun z : Nat → Nat => z 0) zs)))))), (q5, .inl (cA 5, 2, .inr (.inr (.inr (.inr (va_up (va_up (fun _ => none) (ix (0 : Int32)) (some (u7 0))) (ix (1 : Int32)) (some (u9 0)))))))), (q10, .inl (cA 2, 2, .inl (fun _ => 0))), (q11, .inr (0, [.ref u12_0, .int 0, .int 0, .int 0, .int 0, .int 0, .int 0, .int 0])), (u12_0, .inr (9, [.ref u12_1, .int 0])), (u12_1, .inl (cA 0, 100, .inl (fun _ => 0)))] ++ (((ic_B cA u2 ++ zs.flatMap (ic_B cA)) ++ ic_B cA u7) ++ ic_B cA u9))) (ic_A a s.heap.size) s.heap H _ := hW
  refine lv_aload_n hx hb dX10_init_72 rfl (lv_at hl 0 rfl) ?_
  refine lv_aload_n hx hb dX10_init_73 rfl (lv_at hl 0 rfl) ?_
  refine ic_get (C := RX10) (T := TX10) (N := 7) hx hb hts hi10 hown hK.1 hW 0 rfl rfl 4 (by decide) (hts _ (wm 18 rfl)) (v := .ref q11) rfl dX10_init_74 ?_
  refine ic_get (C := RX0) (T := TX0) (N := 8) hx hb hts hi0 hown hK.1 hW 5 rfl rfl 0 (by decide) (hts _ (wm 19 rfl)) (v := .ref u12_0) rfl dX10_init_77 ?_
  refine ic_putF (ci := 10) (v := .ref u12_0) (C := RX10) (T := TX10) (N := 7) hx hb hts hi10 tyX10 tyX10_ok nmX10 hown hK.1 hW 0 rfl rfl 5 (by decide) (hts _ (wm 20 rfl)) rfl hin rfl (tyX10_ok 5 (by decide)) rfl rfl (Nat.le_of_ble_eq_true rfl) dX10_init_80 (fun H locs hW => ?_)
  have hW : ic_W D (([(a, .inr (10, [.ref (u2 0), .ref q3, .ref q5, .ref q10, .ref q11, .ref u12_0, .null])), (q3, .inr (1, [.ref u4_0, .int 0])), (u4_0, .inl (cA 5, 5, .inr (.inr (.inr (.inr (ic_rf (fun z : Nat → Nat => z 0) zs)))))), (q5, .inl (cA 5, 2, .inr (.inr (.inr (.inr (va_up (va_up (fun _ => none) (ix (0 : Int32)) (some (u7 0))) (ix (1 : Int32)) (some (u9 0)))))))), (q10, .inl (cA 2, 2, .inl (fun _ => 0))), (q11, .inr (0, [.ref u12_0, .int 0, .int 0, .int 0, .int 0, .int 0, .int 0, .int 0])), (u12_0, .inr (9, [.ref u12_1, .int 0])), (u12_1, .inl (cA 0, 100, .inl (fun _ => 0)))] ++ (((ic_B cA u2 ++ zs.flatMap (ic_B cA)) ++ ic_B cA u7) ++ ic_B cA u9))) (ic_A a s.heap.size) s.heap H _ := hW
  refine lv_aload_n hx hb dX10_init_83 rfl (lv_at hl 0 rfl) ?_
  refine ic_new (ci := 2) (fs := [.null, .null, .null, .null, .null, .int 0, .int 0, .int 0, .int 0, .int 0, .int 0]) (C := RX2) (T := TX2) (N := 11) hx hb hts hi2 tyX2 tyX2_ok hown (hts _ (wm 21 rfl)) (hts _ (wm 22 rfl)) (hts _ (wm 23 rfl)) hK.1 hW hA rfl (fun j hj => by rcases (show j = 0 ∨ j = 1 ∨ j = 2 ∨ j = 3 ∨ j = 4 ∨ j = 5 ∨ j = 6 ∨ j = 7 ∨ j = 8 ∨ j = 9 ∨ j = 10 by omega) with rfl | rfl | rfl | rfl | rfl | rfl | rfl | rfl | rfl | rfl | rfl <;> rfl) (Nat.le_of_ble_eq_true rfl) (Nat.le_of_ble_eq_true rfl) dX10_init_84 (fun q13 H hW => ?_)
  refine lv_dup hx hb dX10_init_87 rfl ?_
  refine ic_call (va_runIN (As := []) (rest := [.ref q13, .ref a]) ⟨hx, hb, hml, hown, hts⟩ (c_X2_init l D cA q13 H.size) ⟨va_cnB 0 hts gX10_init_X2_init_n45 rfl rfl rfl hK.1.2.2.2.2.2.2.2.1 (hts _ (wm 23 rfl)) (by decide +kernel) ⟨(Nat.le_of_ble_eq_true rfl), (Nat.le_of_ble_eq_true rfl)⟩, rfl, (hts _ (wm 90 rfl))⟩ (ic_pre hK hW) rfl rfl hl.1 rfl (lv_room (Nat.le_of_ble_eq_true rfl)) dX10_init_88 ⟨(Nat.le_of_ble_eq_true rfl), (Nat.le_of_ble_eq_true rfl)⟩) hW hA (fun u14 H locs hu14 hW1 => ?_)
  have hW := hW1
  obtain ⟨u14_0, u14_1, u14_2, u14_3, u14_4⟩ := u14
  have hW := hW.swap
  have hW : ic_W D (([(a, .inr (10, [.ref (u2 0), .ref q3, .ref q5, .ref q10, .ref q11, .ref u12_0, .null])), (q3, .inr (1, [.ref u4_0, .int 0])), (u4_0, .inl (cA 5, 5, .inr (.inr (.inr (.inr (ic_rf (fun z : Nat → Nat => z 0) zs)))))), (q5, .inl (cA 5, 2, .inr (.inr (.inr (.inr (va_up (va_up (fun _ => none) (ix (0 : Int32)) (some (u7 0))) (ix (1 : Int32)) (some (u9 0)))))))), (q10, .inl (cA 2, 2, .inl (fun _ => 0))), (q11, .inr (0, [.ref u12_0, .int 0, .int 0, .int 0, .int 0, .int 0, .int 0, .int 0])), (u12_0, .inr (9, [.ref u12_1, .int 0])), (u12_1, .inl (cA 0, 100, .inl (fun _ => 0))), (q13, .inr (2, [.ref u14_0, .ref u14_1, .ref u14_2, .ref u14_3, .ref u14_4, .int 0, .int 0, .int 0, .int 0, .int 0, .int 0])), (u14_0, .inl (cA 2, 4, .inl (fun _ => 0))), (u14_1, .inl (cA 0, 4, .inl (fun _ => 0))), (u14_2, .inl (cA 0, 4, .inl (fun _ => 0))), (u14_3, .inl (cA 0, 4, .inl (fun _ => 0))), (u14_4, .inl (cA 0, 4, .inl (fun _ => 0)))] ++ (((ic_B cA u2 ++ zs.flatMap (ic_B cA)) ++ ic_B cA u7) ++ ic_B cA u9))) (ic_A a s.heap.size) s.heap H _ := hW
  refine ic_putF (ci := 10) (v := .ref q13) (C := RX10) (T := TX10) (N := 7) hx hb hts hi10 tyX10 tyX10_ok nmX10 hown hK.1 hW 0 rfl rfl 6 (by decide) (hts _ (wm 24 rfl)) rfl hin rfl (tyX10_ok 6 (by decide)) rfl rfl (Nat.le_of_ble_eq_true rfl) dX10_init_91 (fun H locs hW => ?_)
  have hW : ic_W D (([(a, .inr (10, [.ref (u2 0), .ref q3, .ref q5, .ref q10, .ref q11, .ref u12_0, .ref q13])), (q3, .inr (1, [.ref u4_0, .int 0])), (u4_0, .inl (cA 5, 5, .inr (.inr (.inr (.inr (ic_rf (fun z : Nat → Nat => z 0) zs)))))), (q5, .inl (cA 5, 2, .inr (.inr (.inr (.inr (va_up (va_up (fun _ => none) (ix (0 : Int32)) (some (u7 0))) (ix (1 : Int32)) (some (u9 0)))))))), (q10, .inl (cA 2, 2, .inl (fun _ => 0))), (q11, .inr (0, [.ref u12_0, .int 0, .int 0, .int 0, .int 0, .int 0, .int 0, .int 0])), (u12_0, .inr (9, [.ref u12_1, .int 0])), (u12_1, .inl (cA 0, 100, .inl (fun _ => 0))), (q13, .inr (2, [.ref u14_0, .ref u14_1, .ref u14_2, .ref u14_3, .ref u14_4, .int 0, .int 0, .int 0, .int 0, .int 0, .int 0])), (u14_0, .inl (cA 2, 4, .inl (fun _ => 0))), (u14_1, .inl (cA 0, 4, .inl (fun _ => 0))), (u14_2, .inl (cA 0, 4, .inl (fun _ => 0))), (u14_3, .inl (cA 0, 4, .inl (fun _ => 0))), (u14_4, .inl (cA 0, 4, .inl (fun _ => 0)))] ++ (((ic_B cA u2 ++ zs.flatMap (ic_B cA)) ++ ic_B cA u7) ++ ic_B cA u9))) (ic_A a s.heap.size) s.heap H _ := hW
  refine W.widen (k := 237) (n := 1752) (Nat.le_of_ble_eq_true rfl) (Nat.le_of_ble_eq_true rfl) ?_
  obtain ⟨ad, h0, hW⟩ := ic_meter hu4 hW
  exact ic_vret hx hb hr0 hlocks ad h0 hW dX10_init_94

set_option maxHeartbeats 4000000 in
set_option maxRecDepth 100000 in
theorem c_X11_set (l : Launch) (D : va_G) (cA : Nat → ClassId) (ad : Nat → Nat) (M : Mm) (x1 : Int32) (x2 : Int32) {r : Int32} {M' : Mm} (hr : f_X11_set x1 x2 M = some (r, M')) : Met l yX11_set wsX11_set ({ frames := 1, cells := 0, slots := 0, locals := 22 }) (PcX D false cA ad M [.ref (ad 0), .int x1, .int x2]) (QiX false D false cA ad r M') 0 0 (AX false ad) := by
  refine Met.ofW (cc := cX11_set) (maxL := 4) (ret := (some .int)) (by decide) rfl ?_
  intro p e s m args below meth c s₁ B hml hv
  obtain ⟨hav, hP0, hK⟩ := hv
  have hx := B.exec
  have hb := B.bytes
  have hr0 := B.returns
  have hts := atoms_spec (ws := wsX11_set) B.pre
  have hown : s.vm.findClass RX11 = some m.cls := findClass_of_methodNamed B.named
  have hlocks := B.notSynchronized
  have hW := xstart hP0
  have hi11 : ∀ w ∈ wsX110, w ∈ wsX11_set := fun w h => List.mem_cons_of_mem _ (List.mem_append_right _ h)
  have hl := lv_entry ([.ref (ad 0), .int x1, .int x2]) (n := 4) (Nat.le_of_ble_eq_true rfl)
  have hef := lg_entry_eq m ([.ref (ad 0), .int x1, .int x2]) 4
  rw [← hav] at hef
  rw [hef]
  clear hef
  generalize (lg_sl ([.ref (ad 0), .int x1, .int x2]) ++ List.replicate (4 - (lg_sl ([.ref (ad 0), .int x1, .int x2])).length) Slot.unset).toArray = ls at hl ⊢
  have hl : lv_has ls 4 [(0, .ref (ad 0)), (1, .int x1), (2, .int x2)] := hl
  clear hP0
  unfold f_X11_set at hr
  refine lv_iload_n hx hb dX11_set_0 rfl (lv_at hl 1 rfl) ?_
  refine lv_iconst (v := (0 : Int32)) hx hb dX11_set_1 (by decide) ?_
  refine lv_iconst (v := (4 : Int32)) hx hb dX11_set_2 (by decide) ?_
  obtain ⟨r_1, hc3, hr⟩ := ob1_e hr
  refine xk_i (va_runS (As := [.int x1, .int (0 : Int32), .int (4 : Int32)]) (rest := []) ⟨hx, hb, hml, hown, hts⟩ (c_X11_in l D cA ad M x1 (0 : Int32) (4 : Int32) hc3) (va_cwS 3 hts gX11_set_X11_in rfl rfl rfl (by decide +kernel) ⟨Nat.le_of_ble_eq_true rfl, Nat.le_of_ble_eq_true rfl⟩) (xpreS hK hW) rfl rfl hl.1 rfl (lv_room (Nat.le_of_ble_eq_true rfl)) dX11_set_3 ⟨Nat.le_of_ble_eq_true rfl, Nat.le_of_ble_eq_true rfl⟩) hW (fun H locs hW => ?_)
  refine lv_if_ne (tgt := 12) hx hb dX11_set_6 (by decide) (fun c1 => ?_) (fun c1 => ?_)
  · have hr := br_n c1 hr
    refine lv_iload_n hx hb dX11_set_12 rfl (lv_at hl 2 rfl) ?_
    refine lv_iload_n hx hb dX11_set_13 rfl (lv_at hl 1 rfl) ?_
    obtain ⟨r_2, hc14, hr⟩ := ob1_e hr
    refine xk_i (va_runS (As := [.int x1]) (rest := [.int x2]) ⟨hx, hb, hml, hown, hts⟩ (c_X11_least l D cA ad M x1 hc14) (va_cwS 1 hts gX11_set_X11_least rfl rfl rfl (by decide +kernel) ⟨Nat.le_of_ble_eq_true rfl, Nat.le_of_ble_eq_true rfl⟩) (xpreS hK hW) rfl rfl hl.1 rfl (lv_room (Nat.le_of_ble_eq_true rfl)) dX11_set_14 ⟨Nat.le_of_ble_eq_true rfl, Nat.le_of_ble_eq_true rfl⟩) hW (fun H locs hW => ?_)
    refine lv_iload_n hx hb dX11_set_17 rfl (lv_at hl 1 rfl) ?_
    obtain ⟨r_3, hc18, hr⟩ := ob1_e hr
    refine xk_i (va_runS (As := [.int x1]) (rest := [.int r_2, .int x2]) ⟨hx, hb, hml, hown, hts⟩ (c_X11_most l D cA ad M x1 hc18) (va_cwS 1 hts gX11_set_X11_most rfl rfl rfl (by decide +kernel) ⟨Nat.le_of_ble_eq_true rfl, Nat.le_of_ble_eq_true rfl⟩) (xpreS hK hW) rfl rfl hl.1 rfl (lv_room (Nat.le_of_ble_eq_true rfl)) dX11_set_18 ⟨Nat.le_of_ble_eq_true rfl, Nat.le_of_ble_eq_true rfl⟩) hW (fun H locs hW => ?_)
    obtain ⟨r_4, hc21, hr⟩ := ob1_e hr
    refine xk_i (va_runS (As := [.int x2, .int r_2, .int r_3]) (rest := []) ⟨hx, hb, hml, hown, hts⟩ (c_X11_in l D cA ad M x2 r_2 r_3 hc21) (va_cwS 3 hts gX11_set_X11_in rfl rfl rfl (by decide +kernel) ⟨Nat.le_of_ble_eq_true rfl, Nat.le_of_ble_eq_true rfl⟩) (xpreS hK hW) rfl rfl hl.1 rfl (lv_room (Nat.le_of_ble_eq_true rfl)) dX11_set_21 ⟨Nat.le_of_ble_eq_true rfl, Nat.le_of_ble_eq_true rfl⟩) hW (fun H locs hW => ?_)
    refine lv_if_ne (tgt := 30) hx hb dX11_set_24 (by decide) (fun c1 => ?_) (fun c1 => ?_)
    · have hr := br_n c1 hr
      refine lv_aload_n hx hb dX11_set_30 rfl (lv_at hl 0 rfl) ?_
      obtain ⟨M_5, hc31, hr⟩ := ob1_e hr
      refine xk_v (va_runV (As := []) (rest := []) ⟨hx, hb, hml, hown, hts⟩ (c_X11_records l D cA ad M hc31) (cwV 0 hts gX11_set_X11_records rfl rfl rfl (by decide +kernel) ⟨Nat.le_of_ble_eq_true rfl, Nat.le_of_ble_eq_true rfl⟩) (xpreV hK hW (k := 0) rfl (by decide) rfl) rfl rfl hl.1 rfl (lv_room (Nat.le_of_ble_eq_true rfl)) dX11_set_31 ⟨Nat.le_of_ble_eq_true rfl, Nat.le_of_ble_eq_true rfl⟩) hW (fun H locs hW => ?_)
      refine lv_aload_n hx hb dX11_set_34 rfl (lv_at hl 0 rfl) ?_
      refine g11_0 hx hb hts hi11 hown hK hW (k := 0) rfl (hts _ (wm 3 rfl)) dX11_set_35 ?_
      refine lv_bipush (v := (78 : Int32)) hx hb dX11_set_38 (by decide) ?_
      refine lv_iload_n hx hb dX11_set_40 rfl (lv_at hl 1 rfl) ?_
      refine lv_iadd hx hb dX11_set_41 ?_
      obtain ⟨hn42, hr⟩ := chk_e hr
      refine xiald hx hb hK hW (k := 1) (t := 24) rfl (by decide) (by decide) rfl (n := 159) hn42 (jx := (ix ((78 : Int32) + x1))) rfl dX11_set_42 ?_
      obtain ⟨x3_6, ex3_6, hr⟩ := lt1_e hr
      rw [← ex3_6]
      refine lv_istore_n (lv' := [(3, .int x3_6), (0, .ref (ad 0)), (1, .int x1), (2, .int x2)]) hx hb dX11_set_43 rfl hl (by decide) rfl (fun ls hl => ?_)
      refine lv_aload_n hx hb dX11_set_44 rfl (lv_at hl 1 rfl) ?_
      refine g11_0 hx hb hts hi11 hown hK hW (k := 0) rfl (hts _ (wm 3 rfl)) dX11_set_45 ?_
      refine lv_bipush (v := (78 : Int32)) hx hb dX11_set_48 (by decide) ?_
      refine lv_iload_n hx hb dX11_set_50 rfl (lv_at hl 2 rfl) ?_
      refine lv_iadd hx hb dX11_set_51 ?_
      refine lv_iload_n hx hb dX11_set_52 rfl (lv_at hl 3 rfl) ?_
      obtain ⟨hn53, hr⟩ := chk_e hr
      obtain ⟨M_7, eM_7, hr⟩ := lt1_e hr
      refine xiast hx hb hK hW (k := 1) (t := 24) rfl (by decide) (by decide) rfl (n := 159) hn53 (jx := (ix ((78 : Int32) + x1))) rfl dX11_set_53 (fun H locs hW => ?_)
      rw [← eM_7] at hW
      refine lv_iload_n hx hb dX11_set_54 rfl (lv_at hl 0 rfl) ?_
      obtain ⟨e1, e2⟩ := Prod.mk.inj (Option.some.inj hr)
      rw [← e1, ← e2]
      exact xiret hx hb hr0 hlocks hW adR_rf dX11_set_55
    · have hr := br_p c1 hr
      refine lv_ldc (v := (-2000000002 : Int32)) hx hb hown (hts _ (wm 2 rfl)) dX11_set_27 ?_
      obtain ⟨e1, e2⟩ := Prod.mk.inj (Option.some.inj hr)
      rw [← e1, ← e2]
      exact xiret hx hb hr0 hlocks hW adR_rf dX11_set_29
  · have hr := br_p c1 hr
    refine lv_ldc (v := (-2000000001 : Int32)) hx hb hown (hts _ (wm 1 rfl)) dX11_set_9 ?_
    obtain ⟨e1, e2⟩ := Prod.mk.inj (Option.some.inj hr)
    rw [← e1, ← e2]
    exact xiret hx hb hr0 hlocks hW adR_rf dX11_set_11

set_option maxHeartbeats 4000000 in
set_option maxRecDepth 100000 in
theorem c_X11_factorFor (l : Launch) (D : va_G) (cA : Nat → ClassId) (ad : Nat → Nat) (M : Mm) (x1 : Int64) {r : Int32} (hr : f_X11_factorFor x1 M = some r) : Met l yX11_factorFor wsX11_factorFor ({ frames := 2, cells := 0, slots := 0, locals := 43 }) (PcX D false cA ad M [.ref (ad 0), .long x1]) (QiX false D false cA ad r M) 0 0 (AX false ad) := by
  refine Met.ofW (cc := cX11_factorFor) (maxL := 11) (ret := (some .int)) (by decide) rfl ?_
  intro p e s m args below meth c s₁ B hml hv
  obtain ⟨hav, hP0, hK⟩ := hv
  have hx := B.exec
  have hb := B.bytes
  have hr0 := B.returns
  have hts := atoms_spec (ws := wsX11_factorFor) B.pre
  have hown : s.vm.findClass RX11 = some m.cls := findClass_of_methodNamed B.named
  have hlocks := B.notSynchronized
  have hW := xstart hP0
  have hi11 : ∀ w ∈ wsX110, w ∈ wsX11_factorFor := fun w h => List.mem_cons_of_mem _ (List.mem_append_right _ h)
  have hl := lv_entry ([.ref (ad 0), .long x1]) (n := 11) (Nat.le_of_ble_eq_true rfl)
  have hef := lg_entry_eq m ([.ref (ad 0), .long x1]) 11
  rw [← hav] at hef
  rw [hef]
  clear hef
  generalize (lg_sl ([.ref (ad 0), .long x1]) ++ List.replicate (11 - (lg_sl ([.ref (ad 0), .long x1])).length) Slot.unset).toArray = ls at hl ⊢
  have hl : lv_has ls 11 [(0, .ref (ad 0)), (1, .long x1)] := hl
  clear hP0
  unfold f_X11_factorFor at hr
  refine lv_lload_n hx hb dX11_factorFor_0 rfl (lv_at hl 1 rfl) ?_
  refine lv_lconst (v := (0 : Int64)) hx hb dX11_factorFor_1 (by decide) ?_
  obtain ⟨y_1, hr, hr3⟩ := ob1_e hr
  have hj12_1 : ∀ (H : Heap) (locs : List Loc) (ls : Array Slot), Xw D false cA ad M (AX false ad) s.heap H locs → lv_has ls 11 [(0, .ref (ad 0))] → W p l e (headSpec wsX11_factorFor { frames := 2, cells := 0, slots := 0, locals := 43 }).room s m args below meth c H locs 0 0 (MQ below (QiX false D false cA ad r M) args s 0 0 (AX false ad)) (F0 m 12 ls [.long y_1]) := by
    intro H locs ls hW hl
    have hr := hr3
    refine lv_lstore_n (lv' := [(3, .long y_1), (0, .ref (ad 0))]) hx hb dX11_factorFor_12 rfl hl (by decide) rfl (fun ls hl => ?_)
    refine lv_aload_n hx hb dX11_factorFor_13 rfl (lv_at hl 1 rfl) ?_
    refine g11_0 hx hb hts hi11 hown hK hW (k := 0) rfl (hts _ (wm 1 rfl)) dX11_factorFor_14 ?_
    refine lv_bipush (v := (65 : Int32)) hx hb dX11_factorFor_17 (by decide) ?_
    refine xiald hx hb hK hW (k := 1) (t := 24) rfl (by decide) (by decide) rfl (n := 159) (by decide) (jx := 65) (by decide) dX11_factorFor_19 ?_
    obtain ⟨x5_2, ex5_2, hr⟩ := lt1_e hr
    rw [← ex5_2]
    refine lv_istore (lv' := [(5, .int x5_2), (3, .long y_1), (0, .ref (ad 0))]) hx hb dX11_factorFor_20 hl (by decide) rfl (fun ls hl => ?_)
    refine lv_iload hx hb dX11_factorFor_22 (lv_at hl 0 rfl) ?_
    refine lv_if_ne (tgt := 31) hx hb dX11_factorFor_24 (by decide) (fun c1 => ?_) (fun c1 => ?_)
    · have hr := br_n c1 hr
      refine lv_lload_n hx hb dX11_factorFor_31 rfl (lv_at hl 1 rfl) ?_
      refine lv_aload_n hx hb dX11_factorFor_32 rfl (lv_at hl 2 rfl) ?_
      refine lv_iconst (v := (0 : Int32)) hx hb dX11_factorFor_33 (by decide) ?_
      obtain ⟨r_3, hc34, hr⟩ := ob1_e hr
      refine xk_i (va_runV (As := [.int (0 : Int32)]) (rest := [.long y_1]) ⟨hx, hb, hml, hown, hts⟩ (c_X11_speedAt l D cA ad M (0 : Int32) hc34) (cwV 1 hts gX11_factorFor_X11_speedAt rfl rfl rfl (by decide +kernel) ⟨Nat.le_of_ble_eq_true rfl, Nat.le_of_ble_eq_true rfl⟩) (xpreV hK hW (k := 0) rfl (by decide) rfl) rfl rfl hl.1 rfl (lv_room (Nat.le_of_ble_eq_true rfl)) dX11_factorFor_34 ⟨Nat.le_of_ble_eq_true rfl, Nat.le_of_ble_eq_true rfl⟩) hW (fun H locs hW => ?_)
      refine lv_i2l hx hb dX11_factorFor_37 rfl ?_
      refine xlc_gt (tgt := 48) hx hb dX11_factorFor_38 dX11_factorFor_39 (by decide) (fun c1 => ?_) (fun c1 => ?_)
      · have hr := br_p c1 hr
        refine lv_lload_n hx hb dX11_factorFor_48 rfl (lv_at hl 1 rfl) ?_
        refine lv_aload_n hx hb dX11_factorFor_49 rfl (lv_at hl 2 rfl) ?_
        refine lv_iload hx hb dX11_factorFor_50 (lv_at hl 0 rfl) ?_
        refine lv_iconst (v := (1 : Int32)) hx hb dX11_factorFor_52 (by decide) ?_
        refine lv_isub hx hb dX11_factorFor_53 ?_
        obtain ⟨r_4, hc54, hr⟩ := ob1_e hr
        refine xk_i (va_runV (As := [.int (x5_2 - (1 : Int32))]) (rest := [.long y_1]) ⟨hx, hb, hml, hown, hts⟩ (c_X11_speedAt l D cA ad M (x5_2 - (1 : Int32)) hc54) (cwV 1 hts gX11_factorFor_X11_speedAt rfl rfl rfl (by decide +kernel) ⟨Nat.le_of_ble_eq_true rfl, Nat.le_of_ble_eq_true rfl⟩) (xpreV hK hW (k := 0) rfl (by decide) rfl) rfl rfl hl.1 rfl (lv_room (Nat.le_of_ble_eq_true rfl)) dX11_factorFor_54 ⟨Nat.le_of_ble_eq_true rfl, Nat.le_of_ble_eq_true rfl⟩) hW (fun H locs hW => ?_)
        refine lv_i2l hx hb dX11_factorFor_57 rfl ?_
        refine xlc_lt (tgt := 71) hx hb dX11_factorFor_58 dX11_factorFor_59 (by decide) (fun c1 => ?_) (fun c1 => ?_)
        · have hr := br_p c1 hr
          refine lv_aload_n hx hb dX11_factorFor_71 rfl (lv_at hl 2 rfl) ?_
          refine lv_lload_n hx hb dX11_factorFor_72 rfl (lv_at hl 1 rfl) ?_
          refine lv_l2i hx hb dX11_factorFor_73 rfl ?_
          obtain ⟨r_5, hc74, hr⟩ := ob1_e hr
          refine xk_i (va_runV (As := [.int (Int64.toInt32 y_1)]) (rest := []) ⟨hx, hb, hml, hown, hts⟩ (c_X11_placeOf l D cA ad M (Int64.toInt32 y_1) hc74) (cwV 1 hts gX11_factorFor_X11_placeOf rfl rfl rfl (by decide +kernel) ⟨Nat.le_of_ble_eq_true rfl, Nat.le_of_ble_eq_true rfl⟩) (xpreV hK hW (k := 0) rfl (by decide) rfl) rfl rfl hl.1 rfl (lv_room (Nat.le_of_ble_eq_true rfl)) dX11_factorFor_74 ⟨Nat.le_of_ble_eq_true rfl, Nat.le_of_ble_eq_true rfl⟩) hW (fun H locs hW => ?_)
          refine lv_istore (lv' := [(6, .int r_5), (5, .int x5_2), (3, .long y_1), (0, .ref (ad 0))]) hx hb dX11_factorFor_77 hl (by decide) rfl (fun ls hl => ?_)
          refine lv_aload_n hx hb dX11_factorFor_79 rfl (lv_at hl 3 rfl) ?_
          refine lv_iload hx hb dX11_factorFor_80 (lv_at hl 0 rfl) ?_
          obtain ⟨r_6, hc82, hr⟩ := ob1_e hr
          refine xk_i (va_runV (As := [.int r_5]) (rest := []) ⟨hx, hb, hml, hown, hts⟩ (c_X11_speedAt l D cA ad M r_5 hc82) (cwV 1 hts gX11_factorFor_X11_speedAt rfl rfl rfl (by decide +kernel) ⟨Nat.le_of_ble_eq_true rfl, Nat.le_of_ble_eq_true rfl⟩) (xpreV hK hW (k := 0) rfl (by decide) rfl) rfl rfl hl.1 rfl (lv_room (Nat.le_of_ble_eq_true rfl)) dX11_factorFor_82 ⟨Nat.le_of_ble_eq_true rfl, Nat.le_of_ble_eq_true rfl⟩) hW (fun H locs hW => ?_)
          refine lv_i2l hx hb dX11_factorFor_85 rfl ?_
          refine lv_lload_n hx hb dX11_factorFor_86 rfl (lv_at hl 2 rfl) ?_
          refine xlc_ne (tgt := 98) hx hb dX11_factorFor_87 dX11_factorFor_88 (by decide) (fun c1 => ?_) (fun c1 => ?_)
          · have hr := br_n c1 hr
            refine lv_aload_n hx hb dX11_factorFor_98 rfl (lv_at hl 3 rfl) ?_
            refine lv_iload hx hb dX11_factorFor_99 (lv_at hl 0 rfl) ?_
            refine lv_iconst (v := (1 : Int32)) hx hb dX11_factorFor_101 (by decide) ?_
            refine lv_isub hx hb dX11_factorFor_102 ?_
            obtain ⟨r_7, hc103, hr⟩ := ob1_e hr
            refine xk_i (va_runV (As := [.int (r_5 - (1 : Int32))]) (rest := []) ⟨hx, hb, hml, hown, hts⟩ (c_X11_speedAt l D cA ad M (r_5 - (1 : Int32)) hc103) (cwV 1 hts gX11_factorFor_X11_speedAt rfl rfl rfl (by decide +kernel) ⟨Nat.le_of_ble_eq_true rfl, Nat.le_of_ble_eq_true rfl⟩) (xpreV hK hW (k := 0) rfl (by decide) rfl) rfl rfl hl.1 rfl (lv_room (Nat.le_of_ble_eq_true rfl)) dX11_factorFor_103 ⟨Nat.le_of_ble_eq_true rfl, Nat.le_of_ble_eq_true rfl⟩) hW (fun H locs hW => ?_)
            refine lv_i2l hx hb dX11_factorFor_106 rfl ?_
            obtain ⟨x7_8, ex7_8, hr⟩ := lt1_e hr
            rw [← ex7_8]
            refine lv_lstore (lv' := [(7, .long x7_8), (6, .int r_5), (5, .int x5_2), (3, .long y_1), (0, .ref (ad 0))]) hx hb dX11_factorFor_107 hl (by decide) rfl (fun ls hl => ?_)
            refine lv_aload_n hx hb dX11_factorFor_109 rfl (lv_at hl 4 rfl) ?_
            refine lv_iload hx hb dX11_factorFor_110 (lv_at hl 1 rfl) ?_
            obtain ⟨r_9, hc112, hr⟩ := ob1_e hr
            refine xk_i (va_runV (As := [.int r_5]) (rest := []) ⟨hx, hb, hml, hown, hts⟩ (c_X11_speedAt l D cA ad M r_5 hc112) (cwV 1 hts gX11_factorFor_X11_speedAt rfl rfl rfl (by decide +kernel) ⟨Nat.le_of_ble_eq_true rfl, Nat.le_of_ble_eq_true rfl⟩) (xpreV hK hW (k := 0) rfl (by decide) rfl) rfl rfl hl.1 rfl (lv_room (Nat.le_of_ble_eq_true rfl)) dX11_factorFor_112 ⟨Nat.le_of_ble_eq_true rfl, Nat.le_of_ble_eq_true rfl⟩) hW (fun H locs hW => ?_)
            refine lv_i2l hx hb dX11_factorFor_115 rfl ?_
            obtain ⟨x9_10, ex9_10, hr⟩ := lt1_e hr
            rw [← ex9_10]
            refine lv_lstore (lv' := [(9, .long x9_10), (7, .long x7_8), (6, .int r_5), (5, .int x5_2), (3, .long y_1), (0, .ref (ad 0))]) hx hb dX11_factorFor_116 hl (by decide) rfl (fun ls hl => ?_)
            refine lv_aload_n hx hb dX11_factorFor_118 rfl (lv_at hl 5 rfl) ?_
            refine lv_iload hx hb dX11_factorFor_119 (lv_at hl 2 rfl) ?_
            refine lv_iconst (v := (1 : Int32)) hx hb dX11_factorFor_121 (by decide) ?_
            refine lv_isub hx hb dX11_factorFor_122 ?_
            obtain ⟨r_11, hc123, hr⟩ := ob1_e hr
            refine xk_i (va_runV (As := [.int (r_5 - (1 : Int32))]) (rest := []) ⟨hx, hb, hml, hown, hts⟩ (c_X11_factorAt l D cA ad M (r_5 - (1 : Int32)) hc123) (cwV 1 hts gX11_factorFor_X11_factorAt rfl rfl rfl (by decide +kernel) ⟨Nat.le_of_ble_eq_true rfl, Nat.le_of_ble_eq_true rfl⟩) (xpreV hK hW (k := 0) rfl (by decide) rfl) rfl rfl hl.1 rfl (lv_room (Nat.le_of_ble_eq_true rfl)) dX11_factorFor_123 ⟨Nat.le_of_ble_eq_true rfl, Nat.le_of_ble_eq_true rfl⟩) hW (fun H locs hW => ?_)
            refine lv_i2l hx hb dX11_factorFor_126 rfl ?_
            refine lv_lload hx hb dX11_factorFor_127 (lv_at hl 0 rfl) ?_
            refine lv_lload_n hx hb dX11_factorFor_129 rfl (lv_at hl 4 rfl) ?_
            refine lv_lsub hx hb dX11_factorFor_130 ?_
            refine lv_lmul hx hb dX11_factorFor_131 ?_
            refine lv_aload_n hx hb dX11_factorFor_132 rfl (lv_at hl 5 rfl) ?_
            refine lv_iload hx hb dX11_factorFor_133 (lv_at hl 2 rfl) ?_
            obtain ⟨r_12, hc135, hr⟩ := ob1_e hr
            refine xk_i (va_runV (As := [.int r_5]) (rest := [.long ((Int32.toInt64 r_11) * (x9_10 - y_1))]) ⟨hx, hb, hml, hown, hts⟩ (c_X11_factorAt l D cA ad M r_5 hc135) (cwV 1 hts gX11_factorFor_X11_factorAt rfl rfl rfl (by decide +kernel) ⟨Nat.le_of_ble_eq_true rfl, Nat.le_of_ble_eq_true rfl⟩) (xpreV hK hW (k := 0) rfl (by decide) rfl) rfl rfl hl.1 rfl (lv_room (Nat.le_of_ble_eq_true rfl)) dX11_factorFor_135 ⟨Nat.le_of_ble_eq_true rfl, Nat.le_of_ble_eq_true rfl⟩) hW (fun H locs hW => ?_)
            refine lv_i2l hx hb dX11_factorFor_138 rfl ?_
            refine lv_lload_n hx hb dX11_factorFor_139 rfl (lv_at hl 4 rfl) ?_
            refine lv_lload hx hb dX11_factorFor_140 (lv_at hl 1 rfl) ?_
            refine lv_lsub hx hb dX11_factorFor_142 ?_
            refine lv_lmul hx hb dX11_factorFor_143 ?_
            refine lv_ladd hx hb dX11_factorFor_144 ?_
            refine lv_lload hx hb dX11_factorFor_145 (lv_at hl 0 rfl) ?_
            refine lv_lload hx hb dX11_factorFor_147 (lv_at hl 1 rfl) ?_
            refine lv_lsub hx hb dX11_factorFor_149 ?_
            obtain ⟨hc150, hr⟩ := chk_e hr
            refine lv_ldiv hx hb dX11_factorFor_150 (of_decide_eq_true hc150) ?_
            refine lv_l2i hx hb dX11_factorFor_151 rfl ?_
            rw [← Option.some.inj hr]
            exact xiret hx hb hr0 hlocks hW adR_rf dX11_factorFor_152
          · have hr := br_p c1 hr
            refine lv_aload_n hx hb dX11_factorFor_91 rfl (lv_at hl 3 rfl) ?_
            refine lv_iload hx hb dX11_factorFor_92 (lv_at hl 0 rfl) ?_
            obtain ⟨r_13, hc94, hr⟩ := ob1_e hr
            refine xk_i (va_runV (As := [.int r_5]) (rest := []) ⟨hx, hb, hml, hown, hts⟩ (c_X11_factorAt l D cA ad M r_5 hc94) (cwV 1 hts gX11_factorFor_X11_factorAt rfl rfl rfl (by decide +kernel) ⟨Nat.le_of_ble_eq_true rfl, Nat.le_of_ble_eq_true rfl⟩) (xpreV hK hW (k := 0) rfl (by decide) rfl) rfl rfl hl.1 rfl (lv_room (Nat.le_of_ble_eq_true rfl)) dX11_factorFor_94 ⟨Nat.le_of_ble_eq_true rfl, Nat.le_of_ble_eq_true rfl⟩) hW (fun H locs hW => ?_)
            rw [← Option.some.inj hr]
            exact xiret hx hb hr0 hlocks hW adR_rf dX11_factorFor_97
        · have hr := br_n c1 hr
          refine lv_aload_n hx hb dX11_factorFor_62 rfl (lv_at hl 2 rfl) ?_
          refine lv_iload hx hb dX11_factorFor_63 (lv_at hl 0 rfl) ?_
          refine lv_iconst (v := (1 : Int32)) hx hb dX11_factorFor_65 (by decide) ?_
          refine lv_isub hx hb dX11_factorFor_66 ?_
          obtain ⟨r_14, hc67, hr⟩ := ob1_e hr
          refine xk_i (va_runV (As := [.int (x5_2 - (1 : Int32))]) (rest := []) ⟨hx, hb, hml, hown, hts⟩ (c_X11_factorAt l D cA ad M (x5_2 - (1 : Int32)) hc67) (cwV 1 hts gX11_factorFor_X11_factorAt rfl rfl rfl (by decide +kernel) ⟨Nat.le_of_ble_eq_true rfl, Nat.le_of_ble_eq_true rfl⟩) (xpreV hK hW (k := 0) rfl (by decide) rfl) rfl rfl hl.1 rfl (lv_room (Nat.le_of_ble_eq_true rfl)) dX11_factorFor_67 ⟨Nat.le_of_ble_eq_true rfl, Nat.le_of_ble_eq_true rfl⟩) hW (fun H locs hW => ?_)
          rw [← Option.some.inj hr]
          exact xiret hx hb hr0 hlocks hW adR_rf dX11_factorFor_70
      · have hr := br_n c1 hr
        refine lv_aload_n hx hb dX11_factorFor_42 rfl (lv_at hl 2 rfl) ?_
        refine lv_iconst (v := (0 : Int32)) hx hb dX11_factorFor_43 (by decide) ?_
        obtain ⟨r_15, hc44, hr⟩ := ob1_e hr
        refine xk_i (va_runV (As := [.int (0 : Int32)]) (rest := []) ⟨hx, hb, hml, hown, hts⟩ (c_X11_factorAt l D cA ad M (0 : Int32) hc44) (cwV 1 hts gX11_factorFor_X11_factorAt rfl rfl rfl (by decide +kernel) ⟨Nat.le_of_ble_eq_true rfl, Nat.le_of_ble_eq_true rfl⟩) (xpreV hK hW (k := 0) rfl (by decide) rfl) rfl rfl hl.1 rfl (lv_room (Nat.le_of_ble_eq_true rfl)) dX11_factorFor_44 ⟨Nat.le_of_ble_eq_true rfl, Nat.le_of_ble_eq_true rfl⟩) hW (fun H locs hW => ?_)
        rw [← Option.some.inj hr]
        exact xiret hx hb hr0 hlocks hW adR_rf dX11_factorFor_47
    · have hr := br_p c1 hr
      refine lv_sipush (v := (1000 : Int32)) hx hb dX11_factorFor_27 (by decide) ?_
      rw [← Option.some.inj hr]
      exact xiret hx hb hr0 hlocks hW adR_rf dX11_factorFor_30
  clear hr3
  refine xlc_ge (tgt := 11) hx hb dX11_factorFor_2 dX11_factorFor_3 (by decide) (fun c1 => ?_) (fun c1 => ?_)
  · have hr := br_p c1 hr
    refine lv_lload_n hx hb dX11_factorFor_11 rfl (lv_at hl 1 rfl) ?_
    have e1 := Option.some.inj hr
    subst e1
    exact hj12_1 _ _ _ hW (lv_sub hl [0] rfl)
  · have hr := br_n c1 hr
    refine lv_lload_n hx hb dX11_factorFor_6 rfl (lv_at hl 1 rfl) ?_
    refine lv_lneg hx hb dX11_factorFor_7 ?_
    refine lv_goto (tgt := 12) hx hb dX11_factorFor_8 (by decide) ?_
    have e1 := Option.some.inj hr
    subst e1
    exact hj12_1 _ _ _ hW (lv_sub hl [0] rfl)

set_option maxHeartbeats 4000000 in
set_option maxRecDepth 100000 in
theorem c_X11_velocityOf (l : Launch) (D : va_G) (cA : Nat → ClassId) (ad : Nat → Nat) (M : Mm) (x1 : Int32) (x2 : Int32) (x3 : Int32) {r : Int32} (hr : f_X11_velocityOf x1 x2 x3 M = some r) : Met l yX11_velocityOf wsX11_velocityOf ({ frames := 1, cells := 0, slots := 0, locals := 23 }) (PcX D false cA ad M [.ref (ad 0), .int x1, .int x2, .int x3]) (QiX false D false cA ad r M) 0 0 (AX false ad) := by
  refine Met.ofW (cc := cX11_velocityOf) (maxL := 10) (ret := (some .int)) (by decide) rfl ?_
  intro p e s m args below meth c s₁ B hml hv
  obtain ⟨hav, hP0, hK⟩ := hv
  have hx := B.exec
  have hb := B.bytes
  have hr0 := B.returns
  have hts := atoms_spec (ws := wsX11_velocityOf) B.pre
  have hown : s.vm.findClass RX11 = some m.cls := findClass_of_methodNamed B.named
  have hlocks := B.notSynchronized
  have hW := xstart hP0
  have hl := lv_entry ([.ref (ad 0), .int x1, .int x2, .int x3]) (n := 10) (Nat.le_of_ble_eq_true rfl)
  have hef := lg_entry_eq m ([.ref (ad 0), .int x1, .int x2, .int x3]) 10
  rw [← hav] at hef
  rw [hef]
  clear hef
  generalize (lg_sl ([.ref (ad 0), .int x1, .int x2, .int x3]) ++ List.replicate (10 - (lg_sl ([.ref (ad 0), .int x1, .int x2, .int x3])).length) Slot.unset).toArray = ls at hl ⊢
  have hl : lv_has ls 10 [(0, .ref (ad 0)), (1, .int x1), (2, .int x2), (3, .int x3)] := hl
  clear hP0
  unfold f_X11_velocityOf at hr
  refine lv_iload_n hx hb dX11_velocityOf_0 rfl (lv_at hl 2 rfl) ?_
  refine lv_aload_n hx hb dX11_velocityOf_1 rfl (lv_at hl 0 rfl) ?_
  refine lv_iload_n hx hb dX11_velocityOf_2 rfl (lv_at hl 1 rfl) ?_
  refine lv_iconst (v := (4 : Int32)) hx hb dX11_velocityOf_3 (by decide) ?_
  obtain ⟨r_1, hc4, hr⟩ := ob1_e hr
  refine xk_i (va_runV (As := [.int x1, .int (4 : Int32)]) (rest := [.int x2]) ⟨hx, hb, hml, hown, hts⟩ (c_X11_of l D cA ad M x1 (4 : Int32) hc4) (cwV 2 hts gX11_velocityOf_X11_of rfl rfl rfl (by decide +kernel) ⟨Nat.le_of_ble_eq_true rfl, Nat.le_of_ble_eq_true rfl⟩) (xpreV hK hW (k := 0) rfl (by decide) rfl) rfl rfl hl.1 rfl (lv_room (Nat.le_of_ble_eq_true rfl)) dX11_velocityOf_4 ⟨Nat.le_of_ble_eq_true rfl, Nat.le_of_ble_eq_true rfl⟩) hW (fun H locs hW => ?_)
  refine lv_isub hx hb dX11_velocityOf_7 ?_
  refine lv_i2l hx hb dX11_velocityOf_8 rfl ?_
  obtain ⟨x4_2, ex4_2, hr⟩ := lt1_e hr
  rw [← ex4_2]
  refine lv_lstore (lv' := [(4, .long x4_2), (0, .ref (ad 0)), (1, .int x1), (2, .int x2), (3, .int x3)]) hx hb dX11_velocityOf_9 hl (by decide) rfl (fun ls hl => ?_)
  refine lv_iload_n hx hb dX11_velocityOf_11 rfl (lv_at hl 4 rfl) ?_
  refine lv_aload_n hx hb dX11_velocityOf_12 rfl (lv_at hl 1 rfl) ?_
  refine lv_iload_n hx hb dX11_velocityOf_13 rfl (lv_at hl 2 rfl) ?_
  refine lv_iconst (v := (4 : Int32)) hx hb dX11_velocityOf_14 (by decide) ?_
  obtain ⟨r_3, hc15, hr⟩ := ob1_e hr
  refine xk_i (va_runV (As := [.int x1, .int (4 : Int32)]) (rest := [.int x3]) ⟨hx, hb, hml, hown, hts⟩ (c_X11_of l D cA ad M x1 (4 : Int32) hc15) (cwV 2 hts gX11_velocityOf_X11_of rfl rfl rfl (by decide +kernel) ⟨Nat.le_of_ble_eq_true rfl, Nat.le_of_ble_eq_true rfl⟩) (xpreV hK hW (k := 0) rfl (by decide) rfl) rfl rfl hl.1 rfl (lv_room (Nat.le_of_ble_eq_true rfl)) dX11_velocityOf_15 ⟨Nat.le_of_ble_eq_true rfl, Nat.le_of_ble_eq_true rfl⟩) hW (fun H locs hW => ?_)
  refine lv_isub hx hb dX11_velocityOf_18 ?_
  refine lv_i2l hx hb dX11_velocityOf_19 rfl ?_
  obtain ⟨x6_4, ex6_4, hr⟩ := lt1_e hr
  rw [← ex6_4]
  refine lv_lstore (lv' := [(6, .long x6_4), (4, .long x4_2), (0, .ref (ad 0)), (1, .int x1), (2, .int x2), (3, .int x3)]) hx hb dX11_velocityOf_20 hl (by decide) rfl (fun ls hl => ?_)
  refine lv_aload_n hx hb dX11_velocityOf_22 rfl (lv_at hl 2 rfl) ?_
  refine lv_iload_n hx hb dX11_velocityOf_23 rfl (lv_at hl 3 rfl) ?_
  refine lv_iconst (v := (0 : Int32)) hx hb dX11_velocityOf_24 (by decide) ?_
  obtain ⟨r_5, hc25, hr⟩ := ob1_e hr
  refine xk_i (va_runV (As := [.int x1, .int (0 : Int32)]) (rest := []) ⟨hx, hb, hml, hown, hts⟩ (c_X11_of l D cA ad M x1 (0 : Int32) hc25) (cwV 2 hts gX11_velocityOf_X11_of rfl rfl rfl (by decide +kernel) ⟨Nat.le_of_ble_eq_true rfl, Nat.le_of_ble_eq_true rfl⟩) (xpreV hK hW (k := 0) rfl (by decide) rfl) rfl rfl hl.1 rfl (lv_room (Nat.le_of_ble_eq_true rfl)) dX11_velocityOf_25 ⟨Nat.le_of_ble_eq_true rfl, Nat.le_of_ble_eq_true rfl⟩) hW (fun H locs hW => ?_)
  refine lv_i2l hx hb dX11_velocityOf_28 rfl ?_
  refine lv_aload_n hx hb dX11_velocityOf_29 rfl (lv_at hl 2 rfl) ?_
  refine lv_iload_n hx hb dX11_velocityOf_30 rfl (lv_at hl 3 rfl) ?_
  refine lv_iconst (v := (0 : Int32)) hx hb dX11_velocityOf_31 (by decide) ?_
  obtain ⟨r_6, hc32, hr⟩ := ob1_e hr
  refine xk_i (va_runV (As := [.int x1, .int (0 : Int32)]) (rest := [.long (Int32.toInt64 r_5)]) ⟨hx, hb, hml, hown, hts⟩ (c_X11_of l D cA ad M x1 (0 : Int32) hc32) (cwV 2 hts gX11_velocityOf_X11_of rfl rfl rfl (by decide +kernel) ⟨Nat.le_of_ble_eq_true rfl, Nat.le_of_ble_eq_true rfl⟩) (xpreV hK hW (k := 0) rfl (by decide) rfl) rfl rfl hl.1 rfl (lv_room (Nat.le_of_ble_eq_true rfl)) dX11_velocityOf_32 ⟨Nat.le_of_ble_eq_true rfl, Nat.le_of_ble_eq_true rfl⟩) hW (fun H locs hW => ?_)
  refine lv_i2l hx hb dX11_velocityOf_35 rfl ?_
  refine lv_lmul hx hb dX11_velocityOf_36 ?_
  refine lv_ldc2 (v := (500000 : Int64)) hx hb hown (hts _ (wm 1 rfl)) dX11_velocityOf_37 ?_
  refine lv_lmul hx hb dX11_velocityOf_40 ?_
  refine lv_aload_n hx hb dX11_velocityOf_41 rfl (lv_at hl 2 rfl) ?_
  refine lv_iload_n hx hb dX11_velocityOf_42 rfl (lv_at hl 3 rfl) ?_
  refine lv_iconst (v := (1 : Int32)) hx hb dX11_velocityOf_43 (by decide) ?_
  obtain ⟨r_7, hc44, hr⟩ := ob1_e hr
  refine xk_i (va_runV (As := [.int x1, .int (1 : Int32)]) (rest := [.long (((Int32.toInt64 r_5) * (Int32.toInt64 r_6)) * (500000 : Int64))]) ⟨hx, hb, hml, hown, hts⟩ (c_X11_of l D cA ad M x1 (1 : Int32) hc44) (cwV 2 hts gX11_velocityOf_X11_of rfl rfl rfl (by decide +kernel) ⟨Nat.le_of_ble_eq_true rfl, Nat.le_of_ble_eq_true rfl⟩) (xpreV hK hW (k := 0) rfl (by decide) rfl) rfl rfl hl.1 rfl (lv_room (Nat.le_of_ble_eq_true rfl)) dX11_velocityOf_44 ⟨Nat.le_of_ble_eq_true rfl, Nat.le_of_ble_eq_true rfl⟩) hW (fun H locs hW => ?_)
  refine lv_i2l hx hb dX11_velocityOf_47 rfl ?_
  obtain ⟨hc48, hr⟩ := chk_e hr
  refine lv_ldiv hx hb dX11_velocityOf_48 (of_decide_eq_true hc48) ?_
  obtain ⟨x8_8, ex8_8, hr⟩ := lt1_e hr
  rw [← ex8_8]
  refine lv_lstore (lv' := [(8, .long x8_8), (6, .long x6_4), (4, .long x4_2), (0, .ref (ad 0)), (1, .int x1), (2, .int x2), (3, .int x3)]) hx hb dX11_velocityOf_49 hl (by decide) rfl (fun ls hl => ?_)
  refine lv_lload hx hb dX11_velocityOf_51 (lv_at hl 0 rfl) ?_
  refine lv_lload hx hb dX11_velocityOf_53 (lv_at hl 1 rfl) ?_
  refine lv_lload hx hb dX11_velocityOf_55 (lv_at hl 2 rfl) ?_
  refine lv_lsub hx hb dX11_velocityOf_57 ?_
  refine lv_lmul hx hb dX11_velocityOf_58 ?_
  refine lv_lload hx hb dX11_velocityOf_59 (lv_at hl 2 rfl) ?_
  refine lv_lload hx hb dX11_velocityOf_61 (lv_at hl 1 rfl) ?_
  refine lv_lmul hx hb dX11_velocityOf_63 ?_
  refine lv_ldc2 (v := (1000 : Int64)) hx hb hown (hts _ (wm 2 rfl)) dX11_velocityOf_64 ?_
  refine lv_ldiv hx hb dX11_velocityOf_67 (by decide) ?_
  obtain ⟨hc68, hr⟩ := chk_e hr
  refine lv_ldiv hx hb dX11_velocityOf_68 (of_decide_eq_true hc68) ?_
  refine lv_ldc2 (v := (100000 : Int64)) hx hb hown (hts _ (wm 3 rfl)) dX11_velocityOf_69 ?_
  obtain ⟨r_9, hc72, hr⟩ := ob1_e hr
  refine xk_l (va_runS (As := [.long ((x8_8 * (x6_4 - x4_2)) / ((x4_2 * x6_4) / (1000 : Int64))), .long (100000 : Int64)]) (rest := []) ⟨hx, hb, hml, hown, hts⟩ (c_X11_held l D cA ad M ((x8_8 * (x6_4 - x4_2)) / ((x4_2 * x6_4) / (1000 : Int64))) (100000 : Int64) hc72) (va_cwS 2 hts gX11_velocityOf_X11_held rfl rfl rfl (by decide +kernel) ⟨Nat.le_of_ble_eq_true rfl, Nat.le_of_ble_eq_true rfl⟩) (xpreS hK hW) rfl rfl hl.1 rfl (lv_room (Nat.le_of_ble_eq_true rfl)) dX11_velocityOf_72 ⟨Nat.le_of_ble_eq_true rfl, Nat.le_of_ble_eq_true rfl⟩) hW (fun H locs hW => ?_)
  refine lv_l2i hx hb dX11_velocityOf_75 rfl ?_
  rw [← Option.some.inj hr]
  exact xiret hx hb hr0 hlocks hW adR_rf dX11_velocityOf_76

set_option maxHeartbeats 4000000 in
set_option maxRecDepth 100000 in
theorem c_X11_isAbove (l : Launch) (D : va_G) (cA : Nat → ClassId) (ad : Nat → Nat) (M : Mm) (x1 : Int32) (x2 : Int32) {r : Int32} (hr : f_X11_isAbove x1 x2 M = some r) : Met l yX11_isAbove wsX11_isAbove ({ frames := 1, cells := 0, slots := 0, locals := 22 }) (PcX D false cA ad M [.ref (ad 0), .int x1, .int x2]) (QiX false D false cA ad r M) 0 0 (AX false ad) := by
  refine Met.ofW (cc := cX11_isAbove) (maxL := 3) (ret := (some .boolean)) (by decide) rfl ?_
  intro p e s m args below meth c s₁ B hml hv
  obtain ⟨hav, hP0, hK⟩ := hv
  have hx := B.exec
  have hb := B.bytes
  have hr0 := B.returns
  have hts := atoms_spec (ws := wsX11_isAbove) B.pre
  have hown : s.vm.findClass RX11 = some m.cls := findClass_of_methodNamed B.named
  have hlocks := B.notSynchronized
  have hW := xstart hP0
  have hl := lv_entry ([.ref (ad 0), .int x1, .int x2]) (n := 3) (Nat.le_of_ble_eq_true rfl)
  have hef := lg_entry_eq m ([.ref (ad 0), .int x1, .int x2]) 3
  rw [← hav] at hef
  rw [hef]
  clear hef
  generalize (lg_sl ([.ref (ad 0), .int x1, .int x2]) ++ List.replicate (3 - (lg_sl ([.ref (ad 0), .int x1, .int x2])).length) Slot.unset).toArray = ls at hl ⊢
  have hl : lv_has ls 3 [(0, .ref (ad 0)), (1, .int x1), (2, .int x2)] := hl
  clear hP0
  unfold f_X11_isAbove at hr
  refine lv_iload_n hx hb dX11_isAbove_0 rfl (lv_at hl 2 rfl) ?_
  refine lv_aload_n hx hb dX11_isAbove_1 rfl (lv_at hl 0 rfl) ?_
  refine lv_iload_n hx hb dX11_isAbove_2 rfl (lv_at hl 1 rfl) ?_
  refine lv_iconst (v := (4 : Int32)) hx hb dX11_isAbove_3 (by decide) ?_
  obtain ⟨r_1, hc4, hr⟩ := ob1_e hr
  refine xk_i (va_runV (As := [.int x1, .int (4 : Int32)]) (rest := [.int x2]) ⟨hx, hb, hml, hown, hts⟩ (c_X11_of l D cA ad M x1 (4 : Int32) hc4) (cwV 2 hts gX11_isAbove_X11_of rfl rfl rfl (by decide +kernel) ⟨Nat.le_of_ble_eq_true rfl, Nat.le_of_ble_eq_true rfl⟩) (xpreV hK hW (k := 0) rfl (by decide) rfl) rfl rfl hl.1 rfl (lv_room (Nat.le_of_ble_eq_true rfl)) dX11_isAbove_4 ⟨Nat.le_of_ble_eq_true rfl, Nat.le_of_ble_eq_true rfl⟩) hW (fun H locs hW => ?_)
  refine lv_sipush (v := (1000 : Int32)) hx hb dX11_isAbove_7 (by decide) ?_
  refine lv_iadd hx hb dX11_isAbove_10 ?_
  refine lv_icmp_lt (tgt := 18) hx hb dX11_isAbove_11 (by decide) (fun c1 => ?_) (fun c1 => ?_)
  · have hr := br_p c1 hr
    refine lv_iconst (v := (0 : Int32)) hx hb dX11_isAbove_18 (by decide) ?_
    rw [← Option.some.inj hr]
    exact xzret hx hb hr0 hlocks hW adR_rf (by decide) dX11_isAbove_19
  · have hr := br_n c1 hr
    refine lv_iconst (v := (1 : Int32)) hx hb dX11_isAbove_14 (by decide) ?_
    refine lv_goto (tgt := 19) hx hb dX11_isAbove_15 (by decide) ?_
    rw [← Option.some.inj hr]
    exact xzret hx hb hr0 hlocks hW adR_rf (by decide) dX11_isAbove_19

set_option maxHeartbeats 4000000 in
set_option maxRecDepth 100000 in
theorem c_X11_isTime (l : Launch) (D : va_G) (cA : Nat → ClassId) (ad : Nat → Nat) (M : Mm) (x0 : Int32) {r : Int32} (hr : f_X11_isTime x0 M = some r) : Met l yX11_isTime wsX11_isTime ({ frames := 1, cells := 0, slots := 0, locals := 22 }) (PcX D false cA ad M [.int x0]) (QiX false D false cA ad r M) 0 0 (AX false ad) := by
  refine Met.ofW (cc := cX11_isTime) (maxL := 1) (ret := (some .boolean)) (by decide) rfl ?_
  intro p e s m args below meth c s₁ B hml hv
  obtain ⟨hav, hP0, hK⟩ := hv
  have hx := B.exec
  have hb := B.bytes
  have hr0 := B.returns
  have hts := atoms_spec (ws := wsX11_isTime) B.pre
  have hown : s.vm.findClass RX11 = some m.cls := findClass_of_methodNamed B.named
  have hlocks := B.notSynchronized
  have hW := xstart hP0
  have hl := lv_entry ([.int x0]) (n := 1) (Nat.le_of_ble_eq_true rfl)
  have hef := lg_entry_eq m ([.int x0]) 1
  rw [← hav] at hef
  rw [hef]
  clear hef
  generalize (lg_sl ([.int x0]) ++ List.replicate (1 - (lg_sl ([.int x0])).length) Slot.unset).toArray = ls at hl ⊢
  have hl : lv_has ls 1 [(0, .int x0)] := hl
  clear hP0
  unfold f_X11_isTime at hr
  refine lv_iload_n hx hb dX11_isTime_0 rfl (lv_at hl 0 rfl) ?_
  refine lv_sipush (v := (1000 : Int32)) hx hb dX11_isTime_1 (by decide) ?_
  refine lv_ldc (v := (9999999 : Int32)) hx hb hown (hts _ (wm 1 rfl)) dX11_isTime_4 ?_
  obtain ⟨r_1, hc6, hr⟩ := ob1_e hr
  refine xk_i (va_runS (As := [.int x0, .int (1000 : Int32), .int (9999999 : Int32)]) (rest := []) ⟨hx, hb, hml, hown, hts⟩ (c_X11_in l D cA ad M x0 (1000 : Int32) (9999999 : Int32) hc6) (va_cwS 3 hts gX11_isTime_X11_in rfl rfl rfl (by decide +kernel) ⟨Nat.le_of_ble_eq_true rfl, Nat.le_of_ble_eq_true rfl⟩) (xpreS hK hW) rfl rfl hl.1 rfl (lv_room (Nat.le_of_ble_eq_true rfl)) dX11_isTime_6 ⟨Nat.le_of_ble_eq_true rfl, Nat.le_of_ble_eq_true rfl⟩) hW (fun H locs hW => ?_)
  obtain ⟨hz9, hr⟩ := chk_e hr
  rw [← Option.some.inj hr]
  exact xzret hx hb hr0 hlocks hW adR_rf hz9 dX11_isTime_9

set_option maxHeartbeats 4000000 in
set_option maxRecDepth 100000 in
theorem c_X11_shots (l : Launch) (D : va_G) (cA : Nat → ClassId) (ad : Nat → Nat) (M : Mm) {r : Int32} (hr : f_X11_shots M = some r) : Met l yX11_shots wsX11_shots ({ frames := 1, cells := 0, slots := 0, locals := 22 }) (PcX D false cA ad M [.ref (ad 0)]) (QiX false D false cA ad r M) 0 0 (AX false ad) := by
  refine Met.ofW (cc := cX11_shots) (maxL := 3) (ret := (some .int)) (by decide) rfl ?_
  intro p e s m args below meth c s₁ B hml hv
  obtain ⟨hav, hP0, hK⟩ := hv
  have hx := B.exec
  have hb := B.bytes
  have hr0 := B.returns
  have hts := atoms_spec (ws := wsX11_shots) B.pre
  have hown : s.vm.findClass RX11 = some m.cls := findClass_of_methodNamed B.named
  have hlocks := B.notSynchronized
  have hW := xstart hP0
  have hi11 : ∀ w ∈ wsX110, w ∈ wsX11_shots := fun w h => List.mem_cons_of_mem _ (List.mem_append_right _ h)
  have hl := lv_entry ([.ref (ad 0)]) (n := 3) (Nat.le_of_ble_eq_true rfl)
  have hef := lg_entry_eq m ([.ref (ad 0)]) 3
  rw [← hav] at hef
  rw [hef]
  clear hef
  generalize (lg_sl ([.ref (ad 0)]) ++ List.replicate (3 - (lg_sl ([.ref (ad 0)])).length) Slot.unset).toArray = ls at hl ⊢
  have hl : lv_has ls 3 [(0, .ref (ad 0))] := hl
  clear hP0
  unfold f_X11_shots at hr
  refine lv_iconst (v := (0 : Int32)) hx hb dX11_shots_0 (by decide) ?_
  refine lv_istore_n (lv' := [(1, .int (0 : Int32)), (0, .ref (ad 0))]) hx hb dX11_shots_1 rfl hl (by decide) rfl (fun ls hl => ?_)
  refine lv_iconst (v := (0 : Int32)) hx hb dX11_shots_2 (by decide) ?_
  refine lv_istore_n (lv' := [(2, .int (0 : Int32)), (1, .int (0 : Int32)), (0, .ref (ad 0))]) hx hb dX11_shots_3 rfl hl (by decide) rfl (fun ls hl => ?_)
  have hL4_1 : ∀ (n : Nat) (x1_1 : Int32) (x2_2 : Int32) (H : Heap) (locs : List Loc) (ls : Array Slot) (x1_3 : Int32), Xw D false cA ad M (AX false ad) s.heap H locs → lv_has ls 3 [(0, .ref (ad 0)), (1, .int x1_1), (2, .int x2_2)] → f_X11_shots_L4 M n x1_1 x2_2 = some x1_3 → (∀ (H : Heap) (locs : List Loc) (ls : Array Slot), Xw D false cA ad M (AX false ad) s.heap H locs → lv_has ls 3 [(1, .int x1_3)] → W p l e (headSpec wsX11_shots { frames := 1, cells := 0, slots := 0, locals := 22 }).room s m args below meth c H locs 0 0 (MQ below (QiX false D false cA ad r M) args s 0 0 (AX false ad)) (F0 m 41 ls [])) → W p l e (headSpec wsX11_shots { frames := 1, cells := 0, slots := 0, locals := 22 }).room s m args below meth c H locs 0 0 (MQ below (QiX false D false cA ad r M) args s 0 0 (AX false ad)) (F0 m 4 ls []) := by
    intro n
    induction n with
    | zero =>
      intro x1_1 x2_2 H locs ls x1_3 hW hl hr hk
      exact absurd hr (by simp [f_X11_shots_L4])
    | succ n ih =>
      intro x1_1 x2_2 H locs ls x1_3 hW hl hr hk
      rw [f_X11_shots_L4] at hr
      refine lv_iload_n hx hb dX11_shots_4 rfl (lv_at hl 2 rfl) ?_
      refine lv_aload_n hx hb dX11_shots_5 rfl (lv_at hl 0 rfl) ?_
      refine g11_0 hx hb hts hi11 hown hK hW (k := 0) rfl (hts _ (wm 1 rfl)) dX11_shots_6 ?_
      refine lv_bipush (v := (64 : Int32)) hx hb dX11_shots_9 (by decide) ?_
      refine xiald hx hb hK hW (k := 1) (t := 24) rfl (by decide) (by decide) rfl (n := 159) (by decide) (jx := 64) (by decide) dX11_shots_11 ?_
      refine lv_icmp_ge (tgt := 41) hx hb dX11_shots_12 (by decide) (fun c1 => ?_) (fun c1 => ?_)
      · have hr := br_p c1 hr
        have e1 := Option.some.inj hr
        subst e1
        exact hk _ _ _ hW (lv_sub hl [1] rfl)
      · have hr := br_n c1 hr
        refine lv_iload_n hx hb dX11_shots_15 rfl (lv_at hl 1 rfl) ?_
        refine lv_aload_n hx hb dX11_shots_16 rfl (lv_at hl 0 rfl) ?_
        refine lv_iload_n hx hb dX11_shots_17 rfl (lv_at hl 2 rfl) ?_
        refine lv_bipush (v := (13 : Int32)) hx hb dX11_shots_18 (by decide) ?_
        obtain ⟨r_4, hc20, hr⟩ := ob1_e hr
        refine xk_i (va_runV (As := [.int x2_2, .int (13 : Int32)]) (rest := [.int x1_1]) ⟨hx, hb, hml, hown, hts⟩ (c_X11_of l D cA ad M x2_2 (13 : Int32) hc20) (cwV 2 hts gX11_shots_X11_of rfl rfl rfl (by decide +kernel) ⟨Nat.le_of_ble_eq_true rfl, Nat.le_of_ble_eq_true rfl⟩) (xpreV hK hW (k := 0) rfl (by decide) rfl) rfl rfl hl.1 rfl (lv_room (Nat.le_of_ble_eq_true rfl)) dX11_shots_20 ⟨Nat.le_of_ble_eq_true rfl, Nat.le_of_ble_eq_true rfl⟩) hW (fun H locs hW => ?_)
        refine lv_ldc (v := (-2000000005 : Int32)) hx hb hown (hts _ (wm 2 rfl)) dX11_shots_23 ?_
        obtain ⟨y_5, hr, hr3⟩ := ob1_e hr
        have hj33_5 : ∀ (H : Heap) (locs : List Loc) (ls : Array Slot), Xw D false cA ad M (AX false ad) s.heap H locs → lv_has ls 3 [(0, .ref (ad 0)), (2, .int x2_2)] → W p l e (headSpec wsX11_shots { frames := 1, cells := 0, slots := 0, locals := 22 }).room s m args below meth c H locs 0 0 (MQ below (QiX false D false cA ad r M) args s 0 0 (AX false ad)) (F0 m 33 ls [.int y_5, .int x1_1]) := by
          intro H locs ls hW hl
          have hr := hr3
          refine lv_iadd hx hb dX11_shots_33 ?_
          obtain ⟨x1_6, ex1_6, hr⟩ := lt1_e hr
          rw [← ex1_6]
          refine lv_istore_n (lv' := [(1, .int x1_6), (0, .ref (ad 0)), (2, .int x2_2)]) hx hb dX11_shots_34 rfl hl (by decide) rfl (fun ls hl => ?_)
          obtain ⟨x2_7, ex2_7, hr⟩ := lt1_e hr
          refine lv_iinc (v := x2_7) (lv' := [(2, .int x2_7), (1, .int x1_6), (0, .ref (ad 0))]) hx hb dX11_shots_35 hl (k := 2) rfl (by rw [ex2_7]; rfl) (by decide) rfl (fun ls hl => ?_)
          refine lv_goto (tgt := 4) hx hb dX11_shots_38 (by decide) ?_
          exact ih x1_6 x2_7 _ _ _ _ hW (lv_sub hl [2, 1, 0] rfl) hr hk
        clear hr3
        refine lv_icmp_ne (tgt := 32) hx hb dX11_shots_25 (by decide) (fun c1 => ?_) (fun c1 => ?_)
        · have hr := br_n c1 hr
          refine lv_iconst (v := (1 : Int32)) hx hb dX11_shots_32 (by decide) ?_
          have e1 := Option.some.inj hr
          subst e1
          exact hj33_5 _ _ _ hW (lv_sub hl [0, 2] rfl)
        · have hr := br_p c1 hr
          refine lv_iconst (v := (0 : Int32)) hx hb dX11_shots_28 (by decide) ?_
          refine lv_goto (tgt := 33) hx hb dX11_shots_29 (by decide) ?_
          have e1 := Option.some.inj hr
          subst e1
          exact hj33_5 _ _ _ hW (lv_sub hl [0, 2] rfl)
  obtain ⟨x1_3, hr, hr3⟩ := ob1_e hr
  refine hL4_1 1000 (0 : Int32) (0 : Int32) _ _ _ x1_3 hW (lv_sub hl [2, 1, 0] rfl) hr (fun H locs ls hW hl => ?_)
  clear hr
  have hr := hr3
  refine lv_iload_n hx hb dX11_shots_41 rfl (lv_at hl 0 rfl) ?_
  rw [← Option.some.inj hr]
  exact xiret hx hb hr0 hlocks hW adR_rf dX11_shots_42

set_option maxHeartbeats 4000000 in
set_option maxRecDepth 100000 in
theorem c_X11_whyShot (l : Launch) (D : va_G) (cA : Nat → ClassId) (ad : Nat → Nat) (M : Mm) (x1 : Int32) (x2 : Int32) (x3 : Int32) (x4 : Int32) {r : Int32} (hr : f_X11_whyShot x1 x2 x3 x4 M = some r) : Met l yX11_whyShot wsX11_whyShot ({ frames := 2, cells := 0, slots := 0, locals := 44 }) (PcX D false cA ad M [.ref (ad 0), .int x1, .int x2, .int x3, .int x4]) (QiX false D false cA ad r M) 0 0 (AX false ad) := by
  refine Met.ofW (cc := cX11_whyShot) (maxL := 6) (ret := (some .int)) (by decide) rfl ?_
  intro p e s m args below meth c s₁ B hml hv
  obtain ⟨hav, hP0, hK⟩ := hv
  have hx := B.exec
  have hb := B.bytes
  have hr0 := B.returns
  have hts := atoms_spec (ws := wsX11_whyShot) B.pre
  have hown : s.vm.findClass RX11 = some m.cls := findClass_of_methodNamed B.named
  have hlocks := B.notSynchronized
  have hW := xstart hP0
  have hl := lv_entry ([.ref (ad 0), .int x1, .int x2, .int x3, .int x4]) (n := 6) (Nat.le_of_ble_eq_true rfl)
  have hef := lg_entry_eq m ([.ref (ad 0), .int x1, .int x2, .int x3, .int x4]) 6
  rw [← hav] at hef
  rw [hef]
  clear hef
  generalize (lg_sl ([.ref (ad 0), .int x1, .int x2, .int x3, .int x4]) ++ List.replicate (6 - (lg_sl ([.ref (ad 0), .int x1, .int x2, .int x3, .int x4])).length) Slot.unset).toArray = ls at hl ⊢
  have hl : lv_has ls 6 [(0, .ref (ad 0)), (1, .int x1), (2, .int x2), (3, .int x3), (4, .int x4)] := hl
  clear hP0
  unfold f_X11_whyShot at hr
  refine lv_aload_n hx hb dX11_whyShot_0 rfl (lv_at hl 0 rfl) ?_
  refine lv_iload_n hx hb dX11_whyShot_1 rfl (lv_at hl 1 rfl) ?_
  obtain ⟨r_1, hc2, hr⟩ := ob1_e hr
  refine xk_i (va_runV (As := [.int x1]) (rest := []) ⟨hx, hb, hml, hown, hts⟩ (c_X11_isPath l D cA ad M x1 hc2) (cwV 1 hts gX11_whyShot_X11_isPath rfl rfl rfl (by decide +kernel) ⟨Nat.le_of_ble_eq_true rfl, Nat.le_of_ble_eq_true rfl⟩) (xpreV hK hW (k := 0) rfl (by decide) rfl) rfl rfl hl.1 rfl (lv_room (Nat.le_of_ble_eq_true rfl)) dX11_whyShot_2 ⟨Nat.le_of_ble_eq_true rfl, Nat.le_of_ble_eq_true rfl⟩) hW (fun H locs hW => ?_)
  refine lv_if_ne (tgt := 11) hx hb dX11_whyShot_5 (by decide) (fun c1 => ?_) (fun c1 => ?_)
  · have hr := br_n c1 hr
    refine lv_iload_n hx hb dX11_whyShot_11 rfl (lv_at hl 2 rfl) ?_
    obtain ⟨r_2, hc12, hr⟩ := ob1_e hr
    refine xk_i (va_runS (As := [.int x2]) (rest := []) ⟨hx, hb, hml, hown, hts⟩ (c_X11_isTime l D cA ad M x2 hc12) (va_cwS 1 hts gX11_whyShot_X11_isTime rfl rfl rfl (by decide +kernel) ⟨Nat.le_of_ble_eq_true rfl, Nat.le_of_ble_eq_true rfl⟩) (xpreS hK hW) rfl rfl hl.1 rfl (lv_room (Nat.le_of_ble_eq_true rfl)) dX11_whyShot_12 ⟨Nat.le_of_ble_eq_true rfl, Nat.le_of_ble_eq_true rfl⟩) hW (fun H locs hW => ?_)
    obtain ⟨y_3, hr, hr3⟩ := ob1_e hr
    have hj59_3 : ∀ (H : Heap) (locs : List Loc) (ls : Array Slot), Xw D false cA ad M (AX false ad) s.heap H locs → lv_has ls 6 [] → W p l e (headSpec wsX11_whyShot { frames := 2, cells := 0, slots := 0, locals := 44 }).room s m args below meth c H locs 0 0 (MQ below (QiX false D false cA ad r M) args s 0 0 (AX false ad)) (F0 m 59 ls [.int y_3]) := by
      intro H locs ls hW hl
      have hr := hr3
      refine lv_istore (lv' := [(5, .int y_3)]) hx hb dX11_whyShot_59 hl (by decide) rfl (fun ls hl => ?_)
      refine lv_iload hx hb dX11_whyShot_61 (lv_at hl 0 rfl) ?_
      refine lv_if_eq (tgt := 70) hx hb dX11_whyShot_63 (by decide) (fun c1 => ?_) (fun c1 => ?_)
      · have hr := br_p c1 hr
        refine lv_ldc (v := (-2000000002 : Int32)) hx hb hown (hts _ (wm 2 rfl)) dX11_whyShot_70 ?_
        rw [← Option.some.inj hr]
        exact xiret hx hb hr0 hlocks hW adR_rf dX11_whyShot_72
      · have hr := br_n c1 hr
        refine lv_iconst (v := (0 : Int32)) hx hb dX11_whyShot_66 (by decide) ?_
        refine lv_goto (tgt := 72) hx hb dX11_whyShot_67 (by decide) ?_
        rw [← Option.some.inj hr]
        exact xiret hx hb hr0 hlocks hW adR_rf dX11_whyShot_72
    clear hr3
    refine lv_if_eq (tgt := 58) hx hb dX11_whyShot_15 (by decide) (fun c1 => ?_) (fun c1 => ?_)
    · have hr := br_p c1 hr
      refine lv_iconst (v := (0 : Int32)) hx hb dX11_whyShot_58 (by decide) ?_
      have e1 := Option.some.inj hr
      subst e1
      exact hj59_3 _ _ _ hW (lv_sub hl [] rfl)
    · have hr := br_n c1 hr
      refine lv_iload_n hx hb dX11_whyShot_18 rfl (lv_at hl 3 rfl) ?_
      obtain ⟨r_4, hc19, hr⟩ := ob1_e hr
      refine xk_i (va_runS (As := [.int x3]) (rest := []) ⟨hx, hb, hml, hown, hts⟩ (c_X11_isTime l D cA ad M x3 hc19) (va_cwS 1 hts gX11_whyShot_X11_isTime rfl rfl rfl (by decide +kernel) ⟨Nat.le_of_ble_eq_true rfl, Nat.le_of_ble_eq_true rfl⟩) (xpreS hK hW) rfl rfl hl.1 rfl (lv_room (Nat.le_of_ble_eq_true rfl)) dX11_whyShot_19 ⟨Nat.le_of_ble_eq_true rfl, Nat.le_of_ble_eq_true rfl⟩) hW (fun H locs hW => ?_)
      refine lv_if_eq (tgt := 58) hx hb dX11_whyShot_22 (by decide) (fun c1 => ?_) (fun c1 => ?_)
      · have hr := br_p c1 hr
        refine lv_iconst (v := (0 : Int32)) hx hb dX11_whyShot_58 (by decide) ?_
        have e1 := Option.some.inj hr
        subst e1
        exact hj59_3 _ _ _ hW (lv_sub hl [] rfl)
      · have hr := br_n c1 hr
        refine lv_iload hx hb dX11_whyShot_25 (lv_at hl 4 rfl) ?_
        refine lv_iconst (v := (0 : Int32)) hx hb dX11_whyShot_27 (by decide) ?_
        refine lv_bipush (v := (100 : Int32)) hx hb dX11_whyShot_28 (by decide) ?_
        obtain ⟨r_5, hc30, hr⟩ := ob1_e hr
        refine xk_i (va_runS (As := [.int x4, .int (0 : Int32), .int (100 : Int32)]) (rest := []) ⟨hx, hb, hml, hown, hts⟩ (c_X11_in l D cA ad M x4 (0 : Int32) (100 : Int32) hc30) (va_cwS 3 hts gX11_whyShot_X11_in rfl rfl rfl (by decide +kernel) ⟨Nat.le_of_ble_eq_true rfl, Nat.le_of_ble_eq_true rfl⟩) (xpreS hK hW) rfl rfl hl.1 rfl (lv_room (Nat.le_of_ble_eq_true rfl)) dX11_whyShot_30 ⟨Nat.le_of_ble_eq_true rfl, Nat.le_of_ble_eq_true rfl⟩) hW (fun H locs hW => ?_)
        refine lv_if_eq (tgt := 58) hx hb dX11_whyShot_33 (by decide) (fun c1 => ?_) (fun c1 => ?_)
        · have hr := br_p c1 hr
          refine lv_iconst (v := (0 : Int32)) hx hb dX11_whyShot_58 (by decide) ?_
          have e1 := Option.some.inj hr
          subst e1
          exact hj59_3 _ _ _ hW (lv_sub hl [] rfl)
        · have hr := br_n c1 hr
          refine lv_aload_n hx hb dX11_whyShot_36 rfl (lv_at hl 0 rfl) ?_
          refine lv_iload_n hx hb dX11_whyShot_37 rfl (lv_at hl 1 rfl) ?_
          refine lv_iload_n hx hb dX11_whyShot_38 rfl (lv_at hl 2 rfl) ?_
          obtain ⟨r_6, hc39, hr⟩ := ob1_e hr
          refine xk_i (va_runV (As := [.int x1, .int x2]) (rest := []) ⟨hx, hb, hml, hown, hts⟩ (c_X11_isAbove l D cA ad M x1 x2 hc39) (cwV 2 hts gX11_whyShot_X11_isAbove rfl rfl rfl (by decide +kernel) ⟨Nat.le_of_ble_eq_true rfl, Nat.le_of_ble_eq_true rfl⟩) (xpreV hK hW (k := 0) rfl (by decide) rfl) rfl rfl hl.1 rfl (lv_room (Nat.le_of_ble_eq_true rfl)) dX11_whyShot_39 ⟨Nat.le_of_ble_eq_true rfl, Nat.le_of_ble_eq_true rfl⟩) hW (fun H locs hW => ?_)
          refine lv_if_eq (tgt := 58) hx hb dX11_whyShot_42 (by decide) (fun c1 => ?_) (fun c1 => ?_)
          · have hr := br_p c1 hr
            refine lv_iconst (v := (0 : Int32)) hx hb dX11_whyShot_58 (by decide) ?_
            have e1 := Option.some.inj hr
            subst e1
            exact hj59_3 _ _ _ hW (lv_sub hl [] rfl)
          · have hr := br_n c1 hr
            refine lv_aload_n hx hb dX11_whyShot_45 rfl (lv_at hl 0 rfl) ?_
            refine lv_iload_n hx hb dX11_whyShot_46 rfl (lv_at hl 1 rfl) ?_
            refine lv_iload_n hx hb dX11_whyShot_47 rfl (lv_at hl 3 rfl) ?_
            obtain ⟨r_7, hc48, hr⟩ := ob1_e hr
            refine xk_i (va_runV (As := [.int x1, .int x3]) (rest := []) ⟨hx, hb, hml, hown, hts⟩ (c_X11_isAbove l D cA ad M x1 x3 hc48) (cwV 2 hts gX11_whyShot_X11_isAbove rfl rfl rfl (by decide +kernel) ⟨Nat.le_of_ble_eq_true rfl, Nat.le_of_ble_eq_true rfl⟩) (xpreV hK hW (k := 0) rfl (by decide) rfl) rfl rfl hl.1 rfl (lv_room (Nat.le_of_ble_eq_true rfl)) dX11_whyShot_48 ⟨Nat.le_of_ble_eq_true rfl, Nat.le_of_ble_eq_true rfl⟩) hW (fun H locs hW => ?_)
            refine lv_if_eq (tgt := 58) hx hb dX11_whyShot_51 (by decide) (fun c1 => ?_) (fun c1 => ?_)
            · have hr := br_p c1 hr
              refine lv_iconst (v := (0 : Int32)) hx hb dX11_whyShot_58 (by decide) ?_
              have e1 := Option.some.inj hr
              subst e1
              exact hj59_3 _ _ _ hW (lv_sub hl [] rfl)
            · have hr := br_n c1 hr
              refine lv_iconst (v := (1 : Int32)) hx hb dX11_whyShot_54 (by decide) ?_
              refine lv_goto (tgt := 59) hx hb dX11_whyShot_55 (by decide) ?_
              have e1 := Option.some.inj hr
              subst e1
              exact hj59_3 _ _ _ hW (lv_sub hl [] rfl)
  · have hr := br_p c1 hr
    refine lv_ldc (v := (-2000000001 : Int32)) hx hb hown (hts _ (wm 1 rfl)) dX11_whyShot_8 ?_
    rw [← Option.some.inj hr]
    exact xiret hx hb hr0 hlocks hW adR_rf dX11_whyShot_10

set_option maxHeartbeats 4000000 in
set_option maxRecDepth 100000 in
theorem c_X11_shoots (l : Launch) (D : va_G) (cA : Nat → ClassId) (ad : Nat → Nat) (M : Mm) (x1 : Int32) (x2 : Int32) (x3 : Int32) (x4 : Int32) {r : Int32} {M' : Mm} (hr : f_X11_shoots x1 x2 x3 x4 M = some (r, M')) : Met l yX11_shoots wsX11_shoots ({ frames := 2, cells := 0, slots := 0, locals := 44 }) (PcX D false cA ad M [.ref (ad 0), .int x1, .int x2, .int x3, .int x4]) (QiX false D false cA ad r M') 0 0 (AX false ad) := by
  refine Met.ofW (cc := cX11_shoots) (maxL := 5) (ret := (some .int)) (by decide) rfl ?_
  intro p e s m args below meth c s₁ B hml hv
  obtain ⟨hav, hP0, hK⟩ := hv
  have hx := B.exec
  have hb := B.bytes
  have hr0 := B.returns
  have hts := atoms_spec (ws := wsX11_shoots) B.pre
  have hown : s.vm.findClass RX11 = some m.cls := findClass_of_methodNamed B.named
  have hlocks := B.notSynchronized
  have hW := xstart hP0
  have hi11 : ∀ w ∈ wsX110, w ∈ wsX11_shoots := fun w h => List.mem_cons_of_mem _ (List.mem_append_right _ h)
  have hl := lv_entry ([.ref (ad 0), .int x1, .int x2, .int x3, .int x4]) (n := 5) (Nat.le_of_ble_eq_true rfl)
  have hef := lg_entry_eq m ([.ref (ad 0), .int x1, .int x2, .int x3, .int x4]) 5
  rw [← hav] at hef
  rw [hef]
  clear hef
  generalize (lg_sl ([.ref (ad 0), .int x1, .int x2, .int x3, .int x4]) ++ List.replicate (5 - (lg_sl ([.ref (ad 0), .int x1, .int x2, .int x3, .int x4])).length) Slot.unset).toArray = ls at hl ⊢
  have hl : lv_has ls 5 [(0, .ref (ad 0)), (1, .int x1), (2, .int x2), (3, .int x3), (4, .int x4)] := hl
  clear hP0
  unfold f_X11_shoots at hr
  refine lv_aload_n hx hb dX11_shoots_0 rfl (lv_at hl 0 rfl) ?_
  refine lv_iload_n hx hb dX11_shoots_1 rfl (lv_at hl 1 rfl) ?_
  refine lv_bipush (v := (13 : Int32)) hx hb dX11_shoots_2 (by decide) ?_
  refine lv_aload_n hx hb dX11_shoots_4 rfl (lv_at hl 0 rfl) ?_
  refine g11_0 hx hb hts hi11 hown hK hW (k := 0) rfl (hts _ (wm 1 rfl)) dX11_shoots_5 ?_
  refine lv_bipush (v := (83 : Int32)) hx hb dX11_shoots_8 (by decide) ?_
  refine xiald hx hb hK hW (k := 1) (t := 24) rfl (by decide) (by decide) rfl (n := 159) (by decide) (jx := 83) (by decide) dX11_shoots_10 ?_
  refine lv_iadd hx hb dX11_shoots_11 ?_
  refine lv_iload_n hx hb dX11_shoots_12 rfl (lv_at hl 2 rfl) ?_
  obtain ⟨M_1, hc13, hr⟩ := ob1_e hr
  refine xk_v (va_runV (As := [.int x1, .int ((13 : Int32) + (gI M 1 83)), .int x2]) (rest := []) ⟨hx, hb, hml, hown, hts⟩ (c_X11_lay l D cA ad M x1 ((13 : Int32) + (gI M 1 83)) x2 hc13) (cwV 3 hts gX11_shoots_X11_lay rfl rfl rfl (by decide +kernel) ⟨Nat.le_of_ble_eq_true rfl, Nat.le_of_ble_eq_true rfl⟩) (xpreV hK hW (k := 0) rfl (by decide) rfl) rfl rfl hl.1 rfl (lv_room (Nat.le_of_ble_eq_true rfl)) dX11_shoots_13 ⟨Nat.le_of_ble_eq_true rfl, Nat.le_of_ble_eq_true rfl⟩) hW (fun H locs hW => ?_)
  refine lv_aload_n hx hb dX11_shoots_16 rfl (lv_at hl 0 rfl) ?_
  refine lv_iload_n hx hb dX11_shoots_17 rfl (lv_at hl 1 rfl) ?_
  refine lv_bipush (v := (14 : Int32)) hx hb dX11_shoots_18 (by decide) ?_
  refine lv_aload_n hx hb dX11_shoots_20 rfl (lv_at hl 0 rfl) ?_
  refine g11_0 hx hb hts hi11 hown hK hW (k := 0) rfl (hts _ (wm 1 rfl)) dX11_shoots_21 ?_
  refine lv_bipush (v := (83 : Int32)) hx hb dX11_shoots_24 (by decide) ?_
  refine xiald hx hb hK hW (k := 1) (t := 24) rfl (by decide) (by decide) rfl (n := 159) (by decide) (jx := 83) (by decide) dX11_shoots_26 ?_
  refine lv_isub hx hb dX11_shoots_27 ?_
  refine lv_iload_n hx hb dX11_shoots_28 rfl (lv_at hl 3 rfl) ?_
  obtain ⟨M_2, hc29, hr⟩ := ob1_e hr
  refine xk_v (va_runV (As := [.int x1, .int ((14 : Int32) - (gI M_1 1 83)), .int x3]) (rest := []) ⟨hx, hb, hml, hown, hts⟩ (c_X11_lay l D cA ad M_1 x1 ((14 : Int32) - (gI M_1 1 83)) x3 hc29) (cwV 3 hts gX11_shoots_X11_lay rfl rfl rfl (by decide +kernel) ⟨Nat.le_of_ble_eq_true rfl, Nat.le_of_ble_eq_true rfl⟩) (xpreV hK hW (k := 0) rfl (by decide) rfl) rfl rfl hl.1 rfl (lv_room (Nat.le_of_ble_eq_true rfl)) dX11_shoots_29 ⟨Nat.le_of_ble_eq_true rfl, Nat.le_of_ble_eq_true rfl⟩) hW (fun H locs hW => ?_)
  refine lv_aload_n hx hb dX11_shoots_32 rfl (lv_at hl 0 rfl) ?_
  refine lv_iload_n hx hb dX11_shoots_33 rfl (lv_at hl 1 rfl) ?_
  refine lv_bipush (v := (15 : Int32)) hx hb dX11_shoots_34 (by decide) ?_
  refine lv_iload hx hb dX11_shoots_36 (lv_at hl 4 rfl) ?_
  obtain ⟨M_3, hc38, hr⟩ := ob1_e hr
  refine xk_v (va_runV (As := [.int x1, .int (15 : Int32), .int x4]) (rest := []) ⟨hx, hb, hml, hown, hts⟩ (c_X11_lay l D cA ad M_2 x1 (15 : Int32) x4 hc38) (cwV 3 hts gX11_shoots_X11_lay rfl rfl rfl (by decide +kernel) ⟨Nat.le_of_ble_eq_true rfl, Nat.le_of_ble_eq_true rfl⟩) (xpreV hK hW (k := 0) rfl (by decide) rfl) rfl rfl hl.1 rfl (lv_room (Nat.le_of_ble_eq_true rfl)) dX11_shoots_38 ⟨Nat.le_of_ble_eq_true rfl, Nat.le_of_ble_eq_true rfl⟩) hW (fun H locs hW => ?_)
  refine lv_aload_n hx hb dX11_shoots_41 rfl (lv_at hl 0 rfl) ?_
  obtain ⟨r_4, hc42, hr⟩ := ob1_e hr
  refine xk_i (va_runV (As := []) (rest := []) ⟨hx, hb, hml, hown, hts⟩ (c_X11_shots l D cA ad M_3 hc42) (cwV 0 hts gX11_shoots_X11_shots rfl rfl rfl (by decide +kernel) ⟨Nat.le_of_ble_eq_true rfl, Nat.le_of_ble_eq_true rfl⟩) (xpreV hK hW (k := 0) rfl (by decide) rfl) rfl rfl hl.1 rfl (lv_room (Nat.le_of_ble_eq_true rfl)) dX11_shoots_42 ⟨Nat.le_of_ble_eq_true rfl, Nat.le_of_ble_eq_true rfl⟩) hW (fun H locs hW => ?_)
  obtain ⟨e1, e2⟩ := Prod.mk.inj (Option.some.inj hr)
  rw [← e1, ← e2]
  exact xiret hx hb hr0 hlocks hW adR_rf dX11_shoots_45

set_option maxHeartbeats 4000000 in
set_option maxRecDepth 100000 in
theorem c_X11_shot (l : Launch) (D : va_G) (cA : Nat → ClassId) (ad : Nat → Nat) (M : Mm) (x1 : Int32) (x2 : Int32) (x3 : Int32) (x4 : Int32) {r : Int32} {M' : Mm} (hr : f_X11_shot x1 x2 x3 x4 M = some (r, M')) : Met l yX11_shot wsX11_shot ({ frames := 3, cells := 0, slots := 0, locals := 69 }) (PcX D false cA ad M [.ref (ad 0), .int x1, .int x2, .int x3, .int x4]) (QiX false D false cA ad r M') 0 0 (AX false ad) := by
  refine Met.ofW (cc := cX11_shot) (maxL := 6) (ret := (some .int)) (by decide) rfl ?_
  intro p e s m args below meth c s₁ B hml hv
  obtain ⟨hav, hP0, hK⟩ := hv
  have hx := B.exec
  have hb := B.bytes
  have hr0 := B.returns
  have hts := atoms_spec (ws := wsX11_shot) B.pre
  have hown : s.vm.findClass RX11 = some m.cls := findClass_of_methodNamed B.named
  have hlocks := B.notSynchronized
  have hW := xstart hP0
  have hl := lv_entry ([.ref (ad 0), .int x1, .int x2, .int x3, .int x4]) (n := 6) (Nat.le_of_ble_eq_true rfl)
  have hef := lg_entry_eq m ([.ref (ad 0), .int x1, .int x2, .int x3, .int x4]) 6
  rw [← hav] at hef
  rw [hef]
  clear hef
  generalize (lg_sl ([.ref (ad 0), .int x1, .int x2, .int x3, .int x4]) ++ List.replicate (6 - (lg_sl ([.ref (ad 0), .int x1, .int x2, .int x3, .int x4])).length) Slot.unset).toArray = ls at hl ⊢
  have hl : lv_has ls 6 [(0, .ref (ad 0)), (1, .int x1), (2, .int x2), (3, .int x3), (4, .int x4)] := hl
  clear hP0
  unfold f_X11_shot at hr
  refine lv_aload_n hx hb dX11_shot_0 rfl (lv_at hl 0 rfl) ?_
  refine lv_iload_n hx hb dX11_shot_1 rfl (lv_at hl 1 rfl) ?_
  refine lv_iload_n hx hb dX11_shot_2 rfl (lv_at hl 2 rfl) ?_
  refine lv_iload_n hx hb dX11_shot_3 rfl (lv_at hl 3 rfl) ?_
  refine lv_iload hx hb dX11_shot_4 (lv_at hl 4 rfl) ?_
  obtain ⟨r_1, hc6, hr⟩ := ob1_e hr
  refine xk_i (va_runV (As := [.int x1, .int x2, .int x3, .int x4]) (rest := []) ⟨hx, hb, hml, hown, hts⟩ (c_X11_whyShot l D cA ad M x1 x2 x3 x4 hc6) (cwV 4 hts gX11_shot_X11_whyShot rfl rfl rfl (by decide +kernel) ⟨Nat.le_of_ble_eq_true rfl, Nat.le_of_ble_eq_true rfl⟩) (xpreV hK hW (k := 0) rfl (by decide) rfl) rfl rfl hl.1 rfl (lv_room (Nat.le_of_ble_eq_true rfl)) dX11_shot_6 ⟨Nat.le_of_ble_eq_true rfl, Nat.le_of_ble_eq_true rfl⟩) hW (fun H locs hW => ?_)
  refine lv_istore (lv' := [(5, .int r_1), (0, .ref (ad 0)), (1, .int x1), (2, .int x2), (3, .int x3), (4, .int x4)]) hx hb dX11_shot_9 hl (by decide) rfl (fun ls hl => ?_)
  refine lv_iload hx hb dX11_shot_11 (lv_at hl 0 rfl) ?_
  refine lv_if_ge (tgt := 19) hx hb dX11_shot_13 (by decide) (fun c1 => ?_) (fun c1 => ?_)
  · have hr := br_p c1 hr
    refine lv_aload_n hx hb dX11_shot_19 rfl (lv_at hl 1 rfl) ?_
    obtain ⟨M_2, hc20, hr⟩ := ob1_e hr
    refine xk_v (va_runV (As := []) (rest := []) ⟨hx, hb, hml, hown, hts⟩ (c_X11_records l D cA ad M hc20) (cwV 0 hts gX11_shot_X11_records rfl rfl rfl (by decide +kernel) ⟨Nat.le_of_ble_eq_true rfl, Nat.le_of_ble_eq_true rfl⟩) (xpreV hK hW (k := 0) rfl (by decide) rfl) rfl rfl hl.1 rfl (lv_room (Nat.le_of_ble_eq_true rfl)) dX11_shot_20 ⟨Nat.le_of_ble_eq_true rfl, Nat.le_of_ble_eq_true rfl⟩) hW (fun H locs hW => ?_)
    refine lv_aload_n hx hb dX11_shot_23 rfl (lv_at hl 1 rfl) ?_
    refine lv_iload_n hx hb dX11_shot_24 rfl (lv_at hl 2 rfl) ?_
    refine lv_iload_n hx hb dX11_shot_25 rfl (lv_at hl 3 rfl) ?_
    refine lv_iload_n hx hb dX11_shot_26 rfl (lv_at hl 4 rfl) ?_
    refine lv_iload hx hb dX11_shot_27 (lv_at hl 5 rfl) ?_
    obtain ⟨r_4, M_3, hc29, hr⟩ := ob2_e hr
    refine xk_i (va_runV (As := [.int x1, .int x2, .int x3, .int x4]) (rest := []) ⟨hx, hb, hml, hown, hts⟩ (c_X11_shoots l D cA ad M_2 x1 x2 x3 x4 hc29) (cwV 4 hts gX11_shot_X11_shoots rfl rfl rfl (by decide +kernel) ⟨Nat.le_of_ble_eq_true rfl, Nat.le_of_ble_eq_true rfl⟩) (xpreV hK hW (k := 0) rfl (by decide) rfl) rfl rfl hl.1 rfl (lv_room (Nat.le_of_ble_eq_true rfl)) dX11_shot_29 ⟨Nat.le_of_ble_eq_true rfl, Nat.le_of_ble_eq_true rfl⟩) hW (fun H locs hW => ?_)
    obtain ⟨e1, e2⟩ := Prod.mk.inj (Option.some.inj hr)
    rw [← e1, ← e2]
    exact xiret hx hb hr0 hlocks hW adR_rf dX11_shot_32
  · have hr := br_n c1 hr
    refine lv_iload hx hb dX11_shot_16 (lv_at hl 0 rfl) ?_
    obtain ⟨e1, e2⟩ := Prod.mk.inj (Option.some.inj hr)
    rw [← e1, ← e2]
    exact xiret hx hb hr0 hlocks hW adR_rf dX11_shot_18

set_option maxHeartbeats 4000000 in
set_option maxRecDepth 100000 in
theorem c_X11_rounded (l : Launch) (D : va_G) (cA : Nat → ClassId) (ad : Nat → Nat) (M : Mm) (x0 : Int32) (x1 : Int32) {r : Int32} (hr : f_X11_rounded x0 x1 M = some r) : Met l yX11_rounded wsX11_rounded ({ frames := 0, cells := 0, slots := 0, locals := 0 }) (PcX D false cA ad M [.int x0, .int x1]) (QiX false D false cA ad r M) 0 0 (AX false ad) := by
  refine Met.ofW (cc := cX11_rounded) (maxL := 4) (ret := (some .int)) (by decide) rfl ?_
  intro p e s m args below meth c s₁ B hml hv
  obtain ⟨hav, hP0, hK⟩ := hv
  have hx := B.exec
  have hb := B.bytes
  have hr0 := B.returns
  have hts := atoms_spec (ws := wsX11_rounded) B.pre
  have hown : s.vm.findClass RX11 = some m.cls := findClass_of_methodNamed B.named
  have hlocks := B.notSynchronized
  have hW := xstart hP0
  have hl := lv_entry ([.int x0, .int x1]) (n := 4) (Nat.le_of_ble_eq_true rfl)
  have hef := lg_entry_eq m ([.int x0, .int x1]) 4
  rw [← hav] at hef
  rw [hef]
  clear hef
  generalize (lg_sl ([.int x0, .int x1]) ++ List.replicate (4 - (lg_sl ([.int x0, .int x1])).length) Slot.unset).toArray = ls at hl ⊢
  have hl : lv_has ls 4 [(0, .int x0), (1, .int x1)] := hl
  clear hP0
  unfold f_X11_rounded at hr
  refine lv_iload_n hx hb dX11_rounded_0 rfl (lv_at hl 0 rfl) ?_
  obtain ⟨y_1, hr, hr3⟩ := ob1_e hr
  have hj10_1 : ∀ (H : Heap) (locs : List Loc) (ls : Array Slot), Xw D false cA ad M (AX false ad) s.heap H locs → lv_has ls 4 [(0, .int x0), (1, .int x1)] → W p l e (headSpec wsX11_rounded { frames := 0, cells := 0, slots := 0, locals := 0 }).room s m args below meth c H locs 0 0 (MQ below (QiX false D false cA ad r M) args s 0 0 (AX false ad)) (F0 m 10 ls [.int y_1]) := by
    intro H locs ls hW hl
    have hr := hr3
    refine lv_istore_n (lv' := [(2, .int y_1), (0, .int x0), (1, .int x1)]) hx hb dX11_rounded_10 rfl hl (by decide) rfl (fun ls hl => ?_)
    refine lv_iload_n hx hb dX11_rounded_11 rfl (lv_at hl 0 rfl) ?_
    refine lv_iload_n hx hb dX11_rounded_12 rfl (lv_at hl 2 rfl) ?_
    obtain ⟨hc13, hr⟩ := chk_e hr
    refine lv_idiv hx hb dX11_rounded_13 (of_decide_eq_true hc13) ?_
    refine lv_iconst (v := (2 : Int32)) hx hb dX11_rounded_14 (by decide) ?_
    refine lv_iload_n hx hb dX11_rounded_15 rfl (lv_at hl 0 rfl) ?_
    refine lv_iload_n hx hb dX11_rounded_16 rfl (lv_at hl 2 rfl) ?_
    obtain ⟨hc17, hr⟩ := chk_e hr
    refine lv_irem hx hb dX11_rounded_17 (of_decide_eq_true hc17) ?_
    refine lv_imul hx hb dX11_rounded_18 ?_
    refine lv_iload_n hx hb dX11_rounded_19 rfl (lv_at hl 2 rfl) ?_
    obtain ⟨y_2, hr, hr3⟩ := ob1_e hr
    have hj28_2 : ∀ (H : Heap) (locs : List Loc) (ls : Array Slot), Xw D false cA ad M (AX false ad) s.heap H locs → lv_has ls 4 [(0, .int x0)] → W p l e (headSpec wsX11_rounded { frames := 0, cells := 0, slots := 0, locals := 0 }).room s m args below meth c H locs 0 0 (MQ below (QiX false D false cA ad r M) args s 0 0 (AX false ad)) (F0 m 28 ls [.int y_2, .int (y_1 / x1)]) := by
      intro H locs ls hW hl
      have hr := hr3
      refine lv_iadd hx hb dX11_rounded_28 ?_
      obtain ⟨x3_3, ex3_3, hr⟩ := lt1_e hr
      rw [← ex3_3]
      refine lv_istore_n (lv' := [(3, .int x3_3), (0, .int x0)]) hx hb dX11_rounded_29 rfl hl (by decide) rfl (fun ls hl => ?_)
      refine lv_iload_n hx hb dX11_rounded_30 rfl (lv_at hl 1 rfl) ?_
      refine lv_if_ge (tgt := 39) hx hb dX11_rounded_31 (by decide) (fun c1 => ?_) (fun c1 => ?_)
      · have hr := br_p c1 hr
        refine lv_iload_n hx hb dX11_rounded_39 rfl (lv_at hl 0 rfl) ?_
        rw [← Option.some.inj hr]
        exact xiret hx hb hr0 hlocks hW adR_rf dX11_rounded_40
      · have hr := br_n c1 hr
        refine lv_iload_n hx hb dX11_rounded_34 rfl (lv_at hl 0 rfl) ?_
        refine lv_ineg hx hb dX11_rounded_35 ?_
        refine lv_goto (tgt := 40) hx hb dX11_rounded_36 (by decide) ?_
        rw [← Option.some.inj hr]
        exact xiret hx hb hr0 hlocks hW adR_rf dX11_rounded_40
    clear hr3
    refine lv_icmp_le (tgt := 27) hx hb dX11_rounded_20 (by decide) (fun c1 => ?_) (fun c1 => ?_)
    · have hr := br_p c1 hr
      refine lv_iconst (v := (0 : Int32)) hx hb dX11_rounded_27 (by decide) ?_
      have e1 := Option.some.inj hr
      subst e1
      exact hj28_2 _ _ _ hW (lv_sub hl [1] rfl)
    · have hr := br_n c1 hr
      refine lv_iconst (v := (1 : Int32)) hx hb dX11_rounded_23 (by decide) ?_
      refine lv_goto (tgt := 28) hx hb dX11_rounded_24 (by decide) ?_
      have e1 := Option.some.inj hr
      subst e1
      exact hj28_2 _ _ _ hW (lv_sub hl [1] rfl)
  clear hr3
  refine lv_if_ge (tgt := 9) hx hb dX11_rounded_1 (by decide) (fun c1 => ?_) (fun c1 => ?_)
  · have hr := br_p c1 hr
    refine lv_iload_n hx hb dX11_rounded_9 rfl (lv_at hl 0 rfl) ?_
    have e1 := Option.some.inj hr
    subst e1
    exact hj10_1 _ _ _ hW (lv_sub hl [0, 1] rfl)
  · have hr := br_n c1 hr
    refine lv_iload_n hx hb dX11_rounded_4 rfl (lv_at hl 0 rfl) ?_
    refine lv_ineg hx hb dX11_rounded_5 ?_
    refine lv_goto (tgt := 10) hx hb dX11_rounded_6 (by decide) ?_
    have e1 := Option.some.inj hr
    subst e1
    exact hj10_1 _ _ _ hW (lv_sub hl [0, 1] rfl)

set_option maxHeartbeats 4000000 in
set_option maxRecDepth 100000 in
theorem c_X11_takeShifts (l : Launch) (D : va_G) (cA : Nat → ClassId) (ad : Nat → Nat) (M : Mm) {M' : Mm} (hr : f_X11_takeShifts M = some M') : Met l yX11_takeShifts wsX11_takeShifts ({ frames := 1, cells := 0, slots := 0, locals := 23 }) (PcX D false cA ad M [.ref (ad 0)]) (QvX false D false cA ad M') 0 0 (AX false ad) := by
  refine Met.ofW (cc := cX11_takeShifts) (maxL := 3) (ret := none) (by decide) rfl ?_
  intro p e s m args below meth c s₁ B hml hv
  obtain ⟨hav, hP0, hK⟩ := hv
  have hx := B.exec
  have hb := B.bytes
  have hr0 := B.returns
  have hts := atoms_spec (ws := wsX11_takeShifts) B.pre
  have hown : s.vm.findClass RX11 = some m.cls := findClass_of_methodNamed B.named
  have hlocks := B.notSynchronized
  have hW := xstart hP0
  have hi11 : ∀ w ∈ wsX110, w ∈ wsX11_takeShifts := fun w h => List.mem_cons_of_mem _ (List.mem_append_right _ h)
  have hl := lv_entry ([.ref (ad 0)]) (n := 3) (Nat.le_of_ble_eq_true rfl)
  have hef := lg_entry_eq m ([.ref (ad 0)]) 3
  rw [← hav] at hef
  rw [hef]
  clear hef
  generalize (lg_sl ([.ref (ad 0)]) ++ List.replicate (3 - (lg_sl ([.ref (ad 0)])).length) Slot.unset).toArray = ls at hl ⊢
  have hl : lv_has ls 3 [(0, .ref (ad 0))] := hl
  clear hP0
  unfold f_X11_takeShifts at hr
  refine lv_iconst (v := (0 : Int32)) hx hb dX11_takeShifts_0 (by decide) ?_
  refine lv_istore_n (lv' := [(1, .int (0 : Int32)), (0, .ref (ad 0))]) hx hb dX11_takeShifts_1 rfl hl (by decide) rfl (fun ls hl => ?_)
  have hL2_1 : ∀ (n : Nat) (x1_1 : Int32) (M_2 : Mm) (H : Heap) (locs : List Loc) (ls : Array Slot), Xw D false cA ad M_2 (AX false ad) s.heap H locs → lv_has ls 3 [(0, .ref (ad 0)), (1, .int x1_1)] → f_X11_takeShifts_L2 n x1_1 M_2 = some M' → W p l e (headSpec wsX11_takeShifts { frames := 1, cells := 0, slots := 0, locals := 23 }).room s m args below meth c H locs 0 0 (MQ below (QvX false D false cA ad M') args s 0 0 (AX false ad)) (F0 m 2 ls []) := by
    intro n
    induction n with
    | zero =>
      intro x1_1 M_2 H locs ls hW hl hr
      exact absurd hr (by simp [f_X11_takeShifts_L2])
    | succ n ih =>
      intro x1_1 M_2 H locs ls hW hl hr
      rw [f_X11_takeShifts_L2] at hr
      refine lv_iload_n hx hb dX11_takeShifts_2 rfl (lv_at hl 1 rfl) ?_
      refine lv_aload_n hx hb dX11_takeShifts_3 rfl (lv_at hl 0 rfl) ?_
      refine g11_0 hx hb hts hi11 hown hK hW (k := 0) rfl (hts _ (wm 1 rfl)) dX11_takeShifts_4 ?_
      refine lv_bipush (v := (64 : Int32)) hx hb dX11_takeShifts_7 (by decide) ?_
      refine xiald hx hb hK hW (k := 1) (t := 24) rfl (by decide) (by decide) rfl (n := 159) (by decide) (jx := 64) (by decide) dX11_takeShifts_9 ?_
      refine lv_icmp_ge (tgt := 158) hx hb dX11_takeShifts_10 (by decide) (fun c1 => ?_) (fun c1 => ?_)
      · have hr := br_p c1 hr
        rw [← Option.some.inj hr]
        exact xvret hx hb hr0 hlocks hW adR_rf dX11_takeShifts_158
      · have hr := br_n c1 hr
        refine lv_aload_n hx hb dX11_takeShifts_13 rfl (lv_at hl 0 rfl) ?_
        refine g11_10 hx hb hts hi11 hown hK hW (k := 0) rfl (hts _ (wm 2 rfl)) dX11_takeShifts_14 ?_
        refine lv_iload_n hx hb dX11_takeShifts_17 rfl (lv_at hl 1 rfl) ?_
        refine lv_aload_n hx hb dX11_takeShifts_18 rfl (lv_at hl 0 rfl) ?_
        refine lv_iload_n hx hb dX11_takeShifts_19 rfl (lv_at hl 1 rfl) ?_
        refine lv_bipush (v := (13 : Int32)) hx hb dX11_takeShifts_20 (by decide) ?_
        obtain ⟨r_3, hc22, hr⟩ := ob1_e hr
        refine xk_i (va_runV (As := [.int x1_1, .int (13 : Int32)]) (rest := [.int x1_1, .ref (ad 9)]) ⟨hx, hb, hml, hown, hts⟩ (c_X11_of l D cA ad M_2 x1_1 (13 : Int32) hc22) (cwV 2 hts gX11_takeShifts_X11_of rfl rfl rfl (by decide +kernel) ⟨Nat.le_of_ble_eq_true rfl, Nat.le_of_ble_eq_true rfl⟩) (xpreV hK hW (k := 0) rfl (by decide) rfl) rfl rfl hl.1 rfl (lv_room (Nat.le_of_ble_eq_true rfl)) dX11_takeShifts_22 ⟨Nat.le_of_ble_eq_true rfl, Nat.le_of_ble_eq_true rfl⟩) hW (fun H locs hW => ?_)
        refine lv_ldc (v := (-2000000005 : Int32)) hx hb hown (hts _ (wm 3 rfl)) dX11_takeShifts_25 ?_
        obtain ⟨y_4, hr, hr3⟩ := ob1_e hr
        have hj56_4 : ∀ (H : Heap) (locs : List Loc) (ls : Array Slot), Xw D false cA ad M_2 (AX false ad) s.heap H locs → lv_has ls 3 [(0, .ref (ad 0)), (1, .int x1_1)] → W p l e (headSpec wsX11_takeShifts { frames := 1, cells := 0, slots := 0, locals := 23 }).room s m args below meth c H locs 0 0 (MQ below (QvX false D false cA ad M') args s 0 0 (AX false ad)) (F0 m 56 ls [.int y_4, .int x1_1, .ref (ad 9)]) := by
          intro H locs ls hW hl
          have hr := hr3
          obtain ⟨hn56, hr⟩ := chk_e hr
          obtain ⟨M_6, eM_6, hr⟩ := lt1_e hr
          refine xiast hx hb hK hW (k := 9) (t := 20) rfl (by decide) (by decide) rfl (n := 4) hn56 (jx := (ix x1_1)) rfl dX11_takeShifts_56 (fun H locs hW => ?_)
          rw [← eM_6] at hW
          refine lv_aload_n hx hb dX11_takeShifts_57 rfl (lv_at hl 0 rfl) ?_
          refine g11_12 hx hb hts hi11 hown hK hW (k := 0) rfl (hts _ (wm 4 rfl)) dX11_takeShifts_58 ?_
          refine lv_iload_n hx hb dX11_takeShifts_61 rfl (lv_at hl 1 rfl) ?_
          refine lv_aload_n hx hb dX11_takeShifts_62 rfl (lv_at hl 0 rfl) ?_
          refine g11_10 hx hb hts hi11 hown hK hW (k := 0) rfl (hts _ (wm 2 rfl)) dX11_takeShifts_63 ?_
          refine lv_iload_n hx hb dX11_takeShifts_66 rfl (lv_at hl 1 rfl) ?_
          obtain ⟨hn67, hr⟩ := chk_e hr
          refine xiald hx hb hK hW (k := 9) (t := 20) rfl (by decide) (by decide) rfl (n := 4) hn67 (jx := (ix x1_1)) rfl dX11_takeShifts_67 ?_
          refine lv_iconst (v := (4 : Int32)) hx hb dX11_takeShifts_68 (by decide) ?_
          obtain ⟨y_7, hr, hr3⟩ := ob1_e hr
          have hj88_7 : ∀ (H : Heap) (locs : List Loc) (ls : Array Slot), Xw D false cA ad M_6 (AX false ad) s.heap H locs → lv_has ls 3 [(0, .ref (ad 0)), (1, .int x1_1)] → W p l e (headSpec wsX11_takeShifts { frames := 1, cells := 0, slots := 0, locals := 23 }).room s m args below meth c H locs 0 0 (MQ below (QvX false D false cA ad M') args s 0 0 (AX false ad)) (F0 m 88 ls [.int y_7, .int x1_1, .ref (ad 11)]) := by
            intro H locs ls hW hl
            have hr := hr3
            obtain ⟨hn88, hr⟩ := chk_e hr
            obtain ⟨hz88, hr⟩ := chk_e hr
            obtain ⟨M_9, eM_9, hr⟩ := lt1_e hr
            refine xzast hx hb hK hW (k := 11) (t := 30) rfl (by decide) (by decide) rfl (n := 4) hn88 (jx := (ix x1_1)) rfl hz88 dX11_takeShifts_88 (fun H locs hW => ?_)
            rw [← eM_9] at hW
            refine lv_iconst (v := (0 : Int32)) hx hb dX11_takeShifts_89 (by decide) ?_
            refine lv_istore_n (lv' := [(2, .int (0 : Int32)), (0, .ref (ad 0)), (1, .int x1_1)]) hx hb dX11_takeShifts_90 rfl hl (by decide) rfl (fun ls hl => ?_)
            have hL91_2 : ∀ (n : Nat) (x2_10 : Int32) (M_11 : Mm) (H : Heap) (locs : List Loc) (ls : Array Slot) (M_12 : Mm), Xw D false cA ad M_11 (AX false ad) s.heap H locs → lv_has ls 3 [(0, .ref (ad 0)), (1, .int x1_1), (2, .int x2_10)] → f_X11_takeShifts_L91 x1_1 n x2_10 M_11 = some M_12 → (∀ (H : Heap) (locs : List Loc) (ls : Array Slot), Xw D false cA ad M_12 (AX false ad) s.heap H locs → lv_has ls 3 [(0, .ref (ad 0)), (1, .int x1_1)] → W p l e (headSpec wsX11_takeShifts { frames := 1, cells := 0, slots := 0, locals := 23 }).room s m args below meth c H locs 0 0 (MQ below (QvX false D false cA ad M') args s 0 0 (AX false ad)) (F0 m 152 ls [])) → W p l e (headSpec wsX11_takeShifts { frames := 1, cells := 0, slots := 0, locals := 23 }).room s m args below meth c H locs 0 0 (MQ below (QvX false D false cA ad M') args s 0 0 (AX false ad)) (F0 m 91 ls []) := by
              intro n
              induction n with
              | zero =>
                intro x2_10 M_11 H locs ls M_12 hW hl hr hk
                exact absurd hr (by simp [f_X11_takeShifts_L91])
              | succ n ih =>
                intro x2_10 M_11 H locs ls M_12 hW hl hr hk
                rw [f_X11_takeShifts_L91] at hr
                refine lv_iload_n hx hb dX11_takeShifts_91 rfl (lv_at hl 2 rfl) ?_
                refine lv_iconst (v := (2 : Int32)) hx hb dX11_takeShifts_92 (by decide) ?_
                refine lv_icmp_ge (tgt := 152) hx hb dX11_takeShifts_93 (by decide) (fun c1 => ?_) (fun c1 => ?_)
                · have hr := br_p c1 hr
                  have e1 := Option.some.inj hr
                  subst e1
                  exact hk _ _ _ hW (lv_sub hl [0, 1] rfl)
                · have hr := br_n c1 hr
                  refine lv_aload_n hx hb dX11_takeShifts_96 rfl (lv_at hl 0 rfl) ?_
                  refine g11_11 hx hb hts hi11 hown hK hW (k := 0) rfl (hts _ (wm 5 rfl)) dX11_takeShifts_97 ?_
                  refine lv_iconst (v := (2 : Int32)) hx hb dX11_takeShifts_100 (by decide) ?_
                  refine lv_iload_n hx hb dX11_takeShifts_101 rfl (lv_at hl 1 rfl) ?_
                  refine lv_imul hx hb dX11_takeShifts_102 ?_
                  refine lv_iload_n hx hb dX11_takeShifts_103 rfl (lv_at hl 2 rfl) ?_
                  refine lv_iadd hx hb dX11_takeShifts_104 ?_
                  refine lv_aload_n hx hb dX11_takeShifts_105 rfl (lv_at hl 0 rfl) ?_
                  refine g11_12 hx hb hts hi11 hown hK hW (k := 0) rfl (hts _ (wm 4 rfl)) dX11_takeShifts_106 ?_
                  refine lv_iload_n hx hb dX11_takeShifts_109 rfl (lv_at hl 1 rfl) ?_
                  obtain ⟨hn110, hr⟩ := chk_e hr
                  refine xzald hx hb hK hW (k := 11) (t := 30) rfl (by decide) (by decide) rfl (n := 4) hn110 (jx := (ix x1_1)) rfl dX11_takeShifts_110 ?_
                  obtain ⟨y_13, hr, hr3⟩ := ob1_e hr
                  have hj145_13 : ∀ (H : Heap) (locs : List Loc) (ls : Array Slot), Xw D false cA ad M_11 (AX false ad) s.heap H locs → lv_has ls 3 [(0, .ref (ad 0)), (1, .int x1_1), (2, .int x2_10)] → W p l e (headSpec wsX11_takeShifts { frames := 1, cells := 0, slots := 0, locals := 23 }).room s m args below meth c H locs 0 0 (MQ below (QvX false D false cA ad M') args s 0 0 (AX false ad)) (F0 m 145 ls [.int y_13, .int (((2 : Int32) * x1_1) + x2_10), .ref (ad 10)]) := by
                    intro H locs ls hW hl
                    have hr := hr3
                    obtain ⟨hn145, hr⟩ := chk_e hr
                    obtain ⟨M_18, eM_18, hr⟩ := lt1_e hr
                    refine xiast hx hb hK hW (k := 10) (t := 27) rfl (by decide) (by decide) rfl (n := 8) hn145 (jx := (ix (((2 : Int32) * x1_1) + x2_10))) rfl dX11_takeShifts_145 (fun H locs hW => ?_)
                    rw [← eM_18] at hW
                    obtain ⟨x2_19, ex2_19, hr⟩ := lt1_e hr
                    refine lv_iinc (v := x2_19) (lv' := [(2, .int x2_19), (0, .ref (ad 0)), (1, .int x1_1)]) hx hb dX11_takeShifts_146 hl (k := 2) rfl (by rw [ex2_19]; rfl) (by decide) rfl (fun ls hl => ?_)
                    refine lv_goto (tgt := 91) hx hb dX11_takeShifts_149 (by decide) ?_
                    exact ih x2_19 M_18 _ _ _ _ hW (lv_sub hl [1, 2, 0] rfl) hr hk
                  clear hr3
                  refine lv_if_eq (tgt := 144) hx hb dX11_takeShifts_111 (by decide) (fun c1 => ?_) (fun c1 => ?_)
                  · have hr := br_p c1 hr
                    refine lv_iconst (v := (0 : Int32)) hx hb dX11_takeShifts_144 (by decide) ?_
                    have e1 := Option.some.inj hr
                    subst e1
                    exact hj145_13 _ _ _ hW (lv_sub hl [0, 1, 2] rfl)
                  · have hr := br_n c1 hr
                    refine lv_aload_n hx hb dX11_takeShifts_114 rfl (lv_at hl 0 rfl) ?_
                    refine lv_iload_n hx hb dX11_takeShifts_115 rfl (lv_at hl 1 rfl) ?_
                    refine lv_bipush (v := (13 : Int32)) hx hb dX11_takeShifts_116 (by decide) ?_
                    refine lv_iload_n hx hb dX11_takeShifts_118 rfl (lv_at hl 2 rfl) ?_
                    refine lv_iadd hx hb dX11_takeShifts_119 ?_
                    obtain ⟨r_14, hc120, hr⟩ := ob1_e hr
                    refine xk_i (va_runV (As := [.int x1_1, .int ((13 : Int32) + x2_10)]) (rest := [.int (((2 : Int32) * x1_1) + x2_10), .ref (ad 10)]) ⟨hx, hb, hml, hown, hts⟩ (c_X11_of l D cA ad M_11 x1_1 ((13 : Int32) + x2_10) hc120) (cwV 2 hts gX11_takeShifts_X11_of rfl rfl rfl (by decide +kernel) ⟨Nat.le_of_ble_eq_true rfl, Nat.le_of_ble_eq_true rfl⟩) (xpreV hK hW (k := 0) rfl (by decide) rfl) rfl rfl hl.1 rfl (lv_room (Nat.le_of_ble_eq_true rfl)) dX11_takeShifts_120 ⟨Nat.le_of_ble_eq_true rfl, Nat.le_of_ble_eq_true rfl⟩) hW (fun H locs hW => ?_)
                    refine lv_aload_n hx hb dX11_takeShifts_123 rfl (lv_at hl 0 rfl) ?_
                    refine lv_iload_n hx hb dX11_takeShifts_124 rfl (lv_at hl 1 rfl) ?_
                    refine lv_iconst (v := (5 : Int32)) hx hb dX11_takeShifts_125 (by decide) ?_
                    refine lv_iload_n hx hb dX11_takeShifts_126 rfl (lv_at hl 2 rfl) ?_
                    refine lv_iadd hx hb dX11_takeShifts_127 ?_
                    obtain ⟨r_15, hc128, hr⟩ := ob1_e hr
                    refine xk_i (va_runV (As := [.int x1_1, .int ((5 : Int32) + x2_10)]) (rest := [.int r_14, .int (((2 : Int32) * x1_1) + x2_10), .ref (ad 10)]) ⟨hx, hb, hml, hown, hts⟩ (c_X11_of l D cA ad M_11 x1_1 ((5 : Int32) + x2_10) hc128) (cwV 2 hts gX11_takeShifts_X11_of rfl rfl rfl (by decide +kernel) ⟨Nat.le_of_ble_eq_true rfl, Nat.le_of_ble_eq_true rfl⟩) (xpreV hK hW (k := 0) rfl (by decide) rfl) rfl rfl hl.1 rfl (lv_room (Nat.le_of_ble_eq_true rfl)) dX11_takeShifts_128 ⟨Nat.le_of_ble_eq_true rfl, Nat.le_of_ble_eq_true rfl⟩) hW (fun H locs hW => ?_)
                    refine lv_isub hx hb dX11_takeShifts_131 ?_
                    refine lv_aload_n hx hb dX11_takeShifts_132 rfl (lv_at hl 0 rfl) ?_
                    refine lv_iload_n hx hb dX11_takeShifts_133 rfl (lv_at hl 1 rfl) ?_
                    refine lv_iconst (v := (3 : Int32)) hx hb dX11_takeShifts_134 (by decide) ?_
                    obtain ⟨r_16, hc135, hr⟩ := ob1_e hr
                    refine xk_i (va_runV (As := [.int x1_1, .int (3 : Int32)]) (rest := [.int (r_14 - r_15), .int (((2 : Int32) * x1_1) + x2_10), .ref (ad 10)]) ⟨hx, hb, hml, hown, hts⟩ (c_X11_of l D cA ad M_11 x1_1 (3 : Int32) hc135) (cwV 2 hts gX11_takeShifts_X11_of rfl rfl rfl (by decide +kernel) ⟨Nat.le_of_ble_eq_true rfl, Nat.le_of_ble_eq_true rfl⟩) (xpreV hK hW (k := 0) rfl (by decide) rfl) rfl rfl hl.1 rfl (lv_room (Nat.le_of_ble_eq_true rfl)) dX11_takeShifts_135 ⟨Nat.le_of_ble_eq_true rfl, Nat.le_of_ble_eq_true rfl⟩) hW (fun H locs hW => ?_)
                    obtain ⟨r_17, hc138, hr⟩ := ob1_e hr
                    refine xk_i (va_runS (As := [.int (r_14 - r_15), .int r_16]) (rest := [.int (((2 : Int32) * x1_1) + x2_10), .ref (ad 10)]) ⟨hx, hb, hml, hown, hts⟩ (c_X11_rounded l D cA ad M_11 (r_14 - r_15) r_16 hc138) (va_cwS 2 hts gX11_takeShifts_X11_rounded rfl rfl rfl (by decide +kernel) ⟨Nat.le_of_ble_eq_true rfl, Nat.le_of_ble_eq_true rfl⟩) (xpreS hK hW) rfl rfl hl.1 rfl (lv_room (Nat.le_of_ble_eq_true rfl)) dX11_takeShifts_138 ⟨Nat.le_of_ble_eq_true rfl, Nat.le_of_ble_eq_true rfl⟩) hW (fun H locs hW => ?_)
                    refine lv_goto (tgt := 145) hx hb dX11_takeShifts_141 (by decide) ?_
                    have e1 := Option.some.inj hr
                    subst e1
                    exact hj145_13 _ _ _ hW (lv_sub hl [0, 1, 2] rfl)
            obtain ⟨M_12, hr, hr3⟩ := ob1_e hr
            refine hL91_2 1000 (0 : Int32) M_9 _ _ _ M_12 hW (lv_sub hl [1, 2, 0] rfl) hr (fun H locs ls hW hl => ?_)
            clear hr
            have hr := hr3
            obtain ⟨x1_20, ex1_20, hr⟩ := lt1_e hr
            refine lv_iinc (v := x1_20) (lv' := [(1, .int x1_20), (0, .ref (ad 0))]) hx hb dX11_takeShifts_152 hl (k := 1) rfl (by rw [ex1_20]; rfl) (by decide) rfl (fun ls hl => ?_)
            refine lv_goto (tgt := 2) hx hb dX11_takeShifts_155 (by decide) ?_
            exact ih x1_20 M_12 _ _ _ hW (lv_sub hl [1, 0] rfl) hr
          clear hr3
          refine lv_icmp_ne (tgt := 87) hx hb dX11_takeShifts_69 (by decide) (fun c1 => ?_) (fun c1 => ?_)
          · have hr := br_n c1 hr
            refine lv_iconst (v := (0 : Int32)) hx hb dX11_takeShifts_87 (by decide) ?_
            have e1 := Option.some.inj hr
            subst e1
            exact hj88_7 _ _ _ hW (lv_sub hl [0, 1] rfl)
          · have hr := br_p c1 hr
            refine lv_aload_n hx hb dX11_takeShifts_72 rfl (lv_at hl 0 rfl) ?_
            refine lv_iload_n hx hb dX11_takeShifts_73 rfl (lv_at hl 1 rfl) ?_
            refine lv_iconst (v := (5 : Int32)) hx hb dX11_takeShifts_74 (by decide) ?_
            obtain ⟨r_8, hc75, hr⟩ := ob1_e hr
            refine xk_i (va_runV (As := [.int x1_1, .int (5 : Int32)]) (rest := [.int x1_1, .ref (ad 11)]) ⟨hx, hb, hml, hown, hts⟩ (c_X11_of l D cA ad M_6 x1_1 (5 : Int32) hc75) (cwV 2 hts gX11_takeShifts_X11_of rfl rfl rfl (by decide +kernel) ⟨Nat.le_of_ble_eq_true rfl, Nat.le_of_ble_eq_true rfl⟩) (xpreV hK hW (k := 0) rfl (by decide) rfl) rfl rfl hl.1 rfl (lv_room (Nat.le_of_ble_eq_true rfl)) dX11_takeShifts_75 ⟨Nat.le_of_ble_eq_true rfl, Nat.le_of_ble_eq_true rfl⟩) hW (fun H locs hW => ?_)
            refine lv_ldc (v := (-2000000005 : Int32)) hx hb hown (hts _ (wm 3 rfl)) dX11_takeShifts_78 ?_
            refine lv_icmp_eq (tgt := 87) hx hb dX11_takeShifts_80 (by decide) (fun c1 => ?_) (fun c1 => ?_)
            · have hr := br_p c1 hr
              refine lv_iconst (v := (0 : Int32)) hx hb dX11_takeShifts_87 (by decide) ?_
              have e1 := Option.some.inj hr
              subst e1
              exact hj88_7 _ _ _ hW (lv_sub hl [0, 1] rfl)
            · have hr := br_n c1 hr
              refine lv_iconst (v := (1 : Int32)) hx hb dX11_takeShifts_83 (by decide) ?_
              refine lv_goto (tgt := 88) hx hb dX11_takeShifts_84 (by decide) ?_
              have e1 := Option.some.inj hr
              subst e1
              exact hj88_7 _ _ _ hW (lv_sub hl [0, 1] rfl)
        clear hr3
        refine lv_icmp_ne (tgt := 34) hx hb dX11_takeShifts_27 (by decide) (fun c1 => ?_) (fun c1 => ?_)
        · have hr := br_n c1 hr
          refine lv_aload_n hx hb dX11_takeShifts_34 rfl (lv_at hl 0 rfl) ?_
          refine lv_iload_n hx hb dX11_takeShifts_35 rfl (lv_at hl 1 rfl) ?_
          refine lv_bipush (v := (15 : Int32)) hx hb dX11_takeShifts_36 (by decide) ?_
          obtain ⟨r_5, hc38, hr⟩ := ob1_e hr
          refine xk_i (va_runV (As := [.int x1_1, .int (15 : Int32)]) (rest := [.int x1_1, .ref (ad 9)]) ⟨hx, hb, hml, hown, hts⟩ (c_X11_of l D cA ad M_2 x1_1 (15 : Int32) hc38) (cwV 2 hts gX11_takeShifts_X11_of rfl rfl rfl (by decide +kernel) ⟨Nat.le_of_ble_eq_true rfl, Nat.le_of_ble_eq_true rfl⟩) (xpreV hK hW (k := 0) rfl (by decide) rfl) rfl rfl hl.1 rfl (lv_room (Nat.le_of_ble_eq_true rfl)) dX11_takeShifts_38 ⟨Nat.le_of_ble_eq_true rfl, Nat.le_of_ble_eq_true rfl⟩) hW (fun H locs hW => ?_)
          refine lv_aload_n hx hb dX11_takeShifts_41 rfl (lv_at hl 0 rfl) ?_
          refine g11_0 hx hb hts hi11 hown hK hW (k := 0) rfl (hts _ (wm 1 rfl)) dX11_takeShifts_42 ?_
          refine lv_bipush (v := (78 : Int32)) hx hb dX11_takeShifts_45 (by decide) ?_
          refine xiald hx hb hK hW (k := 1) (t := 24) rfl (by decide) (by decide) rfl (n := 159) (by decide) (jx := 78) (by decide) dX11_takeShifts_47 ?_
          refine lv_icmp_ge (tgt := 55) hx hb dX11_takeShifts_48 (by decide) (fun c1 => ?_) (fun c1 => ?_)
          · have hr := br_p c1 hr
            refine lv_iconst (v := (4 : Int32)) hx hb dX11_takeShifts_55 (by decide) ?_
            have e1 := Option.some.inj hr
            subst e1
            exact hj56_4 _ _ _ hW (lv_sub hl [0, 1] rfl)
          · have hr := br_n c1 hr
            refine lv_iconst (v := (1 : Int32)) hx hb dX11_takeShifts_51 (by decide) ?_
            refine lv_goto (tgt := 56) hx hb dX11_takeShifts_52 (by decide) ?_
            have e1 := Option.some.inj hr
            subst e1
            exact hj56_4 _ _ _ hW (lv_sub hl [0, 1] rfl)
        · have hr := br_p c1 hr
          refine lv_iconst (v := (0 : Int32)) hx hb dX11_takeShifts_30 (by decide) ?_
          refine lv_goto (tgt := 56) hx hb dX11_takeShifts_31 (by decide) ?_
          have e1 := Option.some.inj hr
          subst e1
          exact hj56_4 _ _ _ hW (lv_sub hl [0, 1] rfl)
  exact hL2_1 1000 (0 : Int32) M _ _ _ hW (lv_sub hl [1, 0] rfl) hr

set_option maxHeartbeats 4000000 in
set_option maxRecDepth 100000 in
theorem c_X11_weightOf (l : Launch) (D : va_G) (cA : Nat → ClassId) (ad : Nat → Nat) (M : Mm) (x1 : Int32) (x2 : Int32) {r : Int32} (hr : f_X11_weightOf x1 x2 M = some r) : Met l yX11_weightOf wsX11_weightOf ({ frames := 1, cells := 0, slots := 0, locals := 22 }) (PcX D false cA ad M [.ref (ad 0), .int x1, .int x2]) (QiX false D false cA ad r M) 0 0 (AX false ad) := by
  refine Met.ofW (cc := cX11_weightOf) (maxL := 5) (ret := (some .int)) (by decide) rfl ?_
  intro p e s m args below meth c s₁ B hml hv
  obtain ⟨hav, hP0, hK⟩ := hv
  have hx := B.exec
  have hb := B.bytes
  have hr0 := B.returns
  have hts := atoms_spec (ws := wsX11_weightOf) B.pre
  have hown : s.vm.findClass RX11 = some m.cls := findClass_of_methodNamed B.named
  have hlocks := B.notSynchronized
  have hW := xstart hP0
  have hi11 : ∀ w ∈ wsX110, w ∈ wsX11_weightOf := fun w h => List.mem_cons_of_mem _ (List.mem_append_right _ h)
  have hl := lv_entry ([.ref (ad 0), .int x1, .int x2]) (n := 5) (Nat.le_of_ble_eq_true rfl)
  have hef := lg_entry_eq m ([.ref (ad 0), .int x1, .int x2]) 5
  rw [← hav] at hef
  rw [hef]
  clear hef
  generalize (lg_sl ([.ref (ad 0), .int x1, .int x2]) ++ List.replicate (5 - (lg_sl ([.ref (ad 0), .int x1, .int x2])).length) Slot.unset).toArray = ls at hl ⊢
  have hl : lv_has ls 5 [(0, .ref (ad 0)), (1, .int x1), (2, .int x2)] := hl
  clear hP0
  unfold f_X11_weightOf at hr
  refine lv_iconst (v := (0 : Int32)) hx hb dX11_weightOf_0 (by decide) ?_
  refine lv_istore_n (lv' := [(3, .int (0 : Int32)), (0, .ref (ad 0)), (1, .int x1), (2, .int x2)]) hx hb dX11_weightOf_1 rfl hl (by decide) rfl (fun ls hl => ?_)
  refine lv_iconst (v := (0 : Int32)) hx hb dX11_weightOf_2 (by decide) ?_
  refine lv_istore (lv' := [(4, .int (0 : Int32)), (3, .int (0 : Int32)), (0, .ref (ad 0)), (1, .int x1), (2, .int x2)]) hx hb dX11_weightOf_3 hl (by decide) rfl (fun ls hl => ?_)
  have hL5_1 : ∀ (n : Nat) (x3_1 : Int32) (x4_2 : Int32) (H : Heap) (locs : List Loc) (ls : Array Slot) (x3_3 : Int32), Xw D false cA ad M (AX false ad) s.heap H locs → lv_has ls 5 [(0, .ref (ad 0)), (1, .int x1), (2, .int x2), (3, .int x3_1), (4, .int x4_2)] → f_X11_weightOf_L5 M x1 x2 n x3_1 x4_2 = some x3_3 → (∀ (H : Heap) (locs : List Loc) (ls : Array Slot), Xw D false cA ad M (AX false ad) s.heap H locs → lv_has ls 5 [(3, .int x3_3)] → W p l e (headSpec wsX11_weightOf { frames := 1, cells := 0, slots := 0, locals := 22 }).room s m args below meth c H locs 0 0 (MQ below (QiX false D false cA ad r M) args s 0 0 (AX false ad)) (F0 m 66 ls [])) → W p l e (headSpec wsX11_weightOf { frames := 1, cells := 0, slots := 0, locals := 22 }).room s m args below meth c H locs 0 0 (MQ below (QiX false D false cA ad r M) args s 0 0 (AX false ad)) (F0 m 5 ls []) := by
    intro n
    induction n with
    | zero =>
      intro x3_1 x4_2 H locs ls x3_3 hW hl hr hk
      exact absurd hr (by simp [f_X11_weightOf_L5])
    | succ n ih =>
      intro x3_1 x4_2 H locs ls x3_3 hW hl hr hk
      rw [f_X11_weightOf_L5] at hr
      refine lv_iload hx hb dX11_weightOf_5 (lv_at hl 4 rfl) ?_
      refine lv_aload_n hx hb dX11_weightOf_7 rfl (lv_at hl 0 rfl) ?_
      refine g11_0 hx hb hts hi11 hown hK hW (k := 0) rfl (hts _ (wm 1 rfl)) dX11_weightOf_8 ?_
      refine lv_bipush (v := (64 : Int32)) hx hb dX11_weightOf_11 (by decide) ?_
      refine xiald hx hb hK hW (k := 1) (t := 24) rfl (by decide) (by decide) rfl (n := 159) (by decide) (jx := 64) (by decide) dX11_weightOf_13 ?_
      refine lv_icmp_ge (tgt := 66) hx hb dX11_weightOf_14 (by decide) (fun c1 => ?_) (fun c1 => ?_)
      · have hr := br_p c1 hr
        have e1 := Option.some.inj hr
        subst e1
        exact hk _ _ _ hW (lv_sub hl [3] rfl)
      · have hr := br_n c1 hr
        refine lv_iload_n hx hb dX11_weightOf_17 rfl (lv_at hl 3 rfl) ?_
        refine lv_aload_n hx hb dX11_weightOf_18 rfl (lv_at hl 0 rfl) ?_
        refine g11_12 hx hb hts hi11 hown hK hW (k := 0) rfl (hts _ (wm 2 rfl)) dX11_weightOf_19 ?_
        refine lv_iload hx hb dX11_weightOf_22 (lv_at hl 4 rfl) ?_
        obtain ⟨hn24, hr⟩ := chk_e hr
        refine xzald hx hb hK hW (k := 11) (t := 30) rfl (by decide) (by decide) rfl (n := 4) hn24 (jx := (ix x4_2)) rfl dX11_weightOf_24 ?_
        obtain ⟨y_4, hr, hr3⟩ := ob1_e hr
        have hj58_4 : ∀ (H : Heap) (locs : List Loc) (ls : Array Slot), Xw D false cA ad M (AX false ad) s.heap H locs → lv_has ls 5 [(0, .ref (ad 0)), (1, .int x1), (2, .int x2), (4, .int x4_2)] → W p l e (headSpec wsX11_weightOf { frames := 1, cells := 0, slots := 0, locals := 22 }).room s m args below meth c H locs 0 0 (MQ below (QiX false D false cA ad r M) args s 0 0 (AX false ad)) (F0 m 58 ls [.int y_4, .int x3_1]) := by
          intro H locs ls hW hl
          have hr := hr3
          refine lv_iadd hx hb dX11_weightOf_58 ?_
          obtain ⟨x3_7, ex3_7, hr⟩ := lt1_e hr
          rw [← ex3_7]
          refine lv_istore_n (lv' := [(3, .int x3_7), (0, .ref (ad 0)), (1, .int x1), (2, .int x2), (4, .int x4_2)]) hx hb dX11_weightOf_59 rfl hl (by decide) rfl (fun ls hl => ?_)
          obtain ⟨x4_8, ex4_8, hr⟩ := lt1_e hr
          refine lv_iinc (v := x4_8) (lv' := [(4, .int x4_8), (3, .int x3_7), (0, .ref (ad 0)), (1, .int x1), (2, .int x2)]) hx hb dX11_weightOf_60 hl (k := 4) rfl (by rw [ex4_8]; rfl) (by decide) rfl (fun ls hl => ?_)
          refine lv_goto (tgt := 5) hx hb dX11_weightOf_63 (by decide) ?_
          exact ih x3_7 x4_8 _ _ _ _ hW (lv_sub hl [2, 3, 4, 1, 0] rfl) hr hk
        clear hr3
        refine lv_if_eq (tgt := 57) hx hb dX11_weightOf_25 (by decide) (fun c1 => ?_) (fun c1 => ?_)
        · have hr := br_p c1 hr
          refine lv_iconst (v := (0 : Int32)) hx hb dX11_weightOf_57 (by decide) ?_
          have e1 := Option.some.inj hr
          subst e1
          exact hj58_4 _ _ _ hW (lv_sub hl [0, 1, 2, 4] rfl)
        · have hr := br_n c1 hr
          refine lv_iload_n hx hb dX11_weightOf_28 rfl (lv_at hl 1 rfl) ?_
          refine lv_if_lt (tgt := 47) hx hb dX11_weightOf_29 (by decide) (fun c1 => ?_) (fun c1 => ?_)
          · have hr := br_p c1 hr
            refine lv_aload_n hx hb dX11_weightOf_47 rfl (lv_at hl 0 rfl) ?_
            refine lv_iload hx hb dX11_weightOf_48 (lv_at hl 4 rfl) ?_
            refine lv_iconst (v := (2 : Int32)) hx hb dX11_weightOf_50 (by decide) ?_
            obtain ⟨r_5, hc51, hr⟩ := ob1_e hr
            refine xk_i (va_runV (As := [.int x4_2, .int (2 : Int32)]) (rest := [.int x3_1]) ⟨hx, hb, hml, hown, hts⟩ (c_X11_of l D cA ad M x4_2 (2 : Int32) hc51) (cwV 2 hts gX11_weightOf_X11_of rfl rfl rfl (by decide +kernel) ⟨Nat.le_of_ble_eq_true rfl, Nat.le_of_ble_eq_true rfl⟩) (xpreV hK hW (k := 0) rfl (by decide) rfl) rfl rfl hl.1 rfl (lv_room (Nat.le_of_ble_eq_true rfl)) dX11_weightOf_51 ⟨Nat.le_of_ble_eq_true rfl, Nat.le_of_ble_eq_true rfl⟩) hW (fun H locs hW => ?_)
            refine lv_goto (tgt := 58) hx hb dX11_weightOf_54 (by decide) ?_
            have e1 := Option.some.inj hr
            subst e1
            exact hj58_4 _ _ _ hW (lv_sub hl [0, 1, 2, 4] rfl)
          · have hr := br_n c1 hr
            refine lv_aload_n hx hb dX11_weightOf_32 rfl (lv_at hl 0 rfl) ?_
            refine g11_11 hx hb hts hi11 hown hK hW (k := 0) rfl (hts _ (wm 3 rfl)) dX11_weightOf_33 ?_
            refine lv_iconst (v := (2 : Int32)) hx hb dX11_weightOf_36 (by decide) ?_
            refine lv_iload hx hb dX11_weightOf_37 (lv_at hl 4 rfl) ?_
            refine lv_imul hx hb dX11_weightOf_39 ?_
            refine lv_iload_n hx hb dX11_weightOf_40 rfl (lv_at hl 1 rfl) ?_
            refine lv_iadd hx hb dX11_weightOf_41 ?_
            obtain ⟨hn42, hr⟩ := chk_e hr
            refine xiald hx hb hK hW (k := 10) (t := 27) rfl (by decide) (by decide) rfl (n := 8) hn42 (jx := (ix (((2 : Int32) * x4_2) + x1))) rfl dX11_weightOf_42 ?_
            refine lv_iload_n hx hb dX11_weightOf_43 rfl (lv_at hl 2 rfl) ?_
            refine lv_icmp_ne (tgt := 57) hx hb dX11_weightOf_44 (by decide) (fun c1 => ?_) (fun c1 => ?_)
            · have hr := br_n c1 hr
              refine lv_iconst (v := (0 : Int32)) hx hb dX11_weightOf_57 (by decide) ?_
              have e1 := Option.some.inj hr
              subst e1
              exact hj58_4 _ _ _ hW (lv_sub hl [0, 1, 2, 4] rfl)
            · have hr := br_p c1 hr
              refine lv_aload_n hx hb dX11_weightOf_47 rfl (lv_at hl 0 rfl) ?_
              refine lv_iload hx hb dX11_weightOf_48 (lv_at hl 4 rfl) ?_
              refine lv_iconst (v := (2 : Int32)) hx hb dX11_weightOf_50 (by decide) ?_
              obtain ⟨r_6, hc51, hr⟩ := ob1_e hr
              refine xk_i (va_runV (As := [.int x4_2, .int (2 : Int32)]) (rest := [.int x3_1]) ⟨hx, hb, hml, hown, hts⟩ (c_X11_of l D cA ad M x4_2 (2 : Int32) hc51) (cwV 2 hts gX11_weightOf_X11_of rfl rfl rfl (by decide +kernel) ⟨Nat.le_of_ble_eq_true rfl, Nat.le_of_ble_eq_true rfl⟩) (xpreV hK hW (k := 0) rfl (by decide) rfl) rfl rfl hl.1 rfl (lv_room (Nat.le_of_ble_eq_true rfl)) dX11_weightOf_51 ⟨Nat.le_of_ble_eq_true rfl, Nat.le_of_ble_eq_true rfl⟩) hW (fun H locs hW => ?_)
              refine lv_goto (tgt := 58) hx hb dX11_weightOf_54 (by decide) ?_
              have e1 := Option.some.inj hr
              subst e1
              exact hj58_4 _ _ _ hW (lv_sub hl [0, 1, 2, 4] rfl)
  obtain ⟨x3_3, hr, hr3⟩ := ob1_e hr
  refine hL5_1 1000 (0 : Int32) (0 : Int32) _ _ _ x3_3 hW (lv_sub hl [2, 3, 4, 1, 0] rfl) hr (fun H locs ls hW hl => ?_)
  clear hr
  have hr := hr3
  refine lv_iload_n hx hb dX11_weightOf_66 rfl (lv_at hl 0 rfl) ?_
  rw [← Option.some.inj hr]
  exact xiret hx hb hr0 hlocks hW adR_rf dX11_weightOf_67

set_option maxHeartbeats 4000000 in
set_option maxRecDepth 100000 in
theorem c_X11_vote (l : Launch) (D : va_G) (cA : Nat → ClassId) (ad : Nat → Nat) (M : Mm) (x1 : Int32) {M' : Mm} (hr : f_X11_vote x1 M = some M') : Met l yX11_vote wsX11_vote ({ frames := 2, cells := 0, slots := 0, locals := 46 }) (PcX D false cA ad M [.ref (ad 0), .int x1]) (QvX false D false cA ad M') 0 0 (AX false ad) := by
  refine Met.ofW (cc := cX11_vote) (maxL := 8) (ret := none) (by decide) rfl ?_
  intro p e s m args below meth c s₁ B hml hv
  obtain ⟨hav, hP0, hK⟩ := hv
  have hx := B.exec
  have hb := B.bytes
  have hr0 := B.returns
  have hts := atoms_spec (ws := wsX11_vote) B.pre
  have hown : s.vm.findClass RX11 = some m.cls := findClass_of_methodNamed B.named
  have hlocks := B.notSynchronized
  have hW := xstart hP0
  have hi11 : ∀ w ∈ wsX110, w ∈ wsX11_vote := fun w h => List.mem_cons_of_mem _ (List.mem_append_right _ h)
  have hl := lv_entry ([.ref (ad 0), .int x1]) (n := 8) (Nat.le_of_ble_eq_true rfl)
  have hef := lg_entry_eq m ([.ref (ad 0), .int x1]) 8
  rw [← hav] at hef
  rw [hef]
  clear hef
  generalize (lg_sl ([.ref (ad 0), .int x1]) ++ List.replicate (8 - (lg_sl ([.ref (ad 0), .int x1])).length) Slot.unset).toArray = ls at hl ⊢
  have hl : lv_has ls 8 [(0, .ref (ad 0)), (1, .int x1)] := hl
  clear hP0
  unfold f_X11_vote at hr
  refine lv_aload_n hx hb dX11_vote_0 rfl (lv_at hl 0 rfl) ?_
  refine lv_iconst (v := (-1 : Int32)) hx hb dX11_vote_1 (by decide) ?_
  refine lv_iconst (v := (0 : Int32)) hx hb dX11_vote_2 (by decide) ?_
  obtain ⟨r_1, hc3, hr⟩ := ob1_e hr
  refine xk_i (va_runV (As := [.int (-1 : Int32), .int (0 : Int32)]) (rest := []) ⟨hx, hb, hml, hown, hts⟩ (c_X11_weightOf l D cA ad M (-1 : Int32) (0 : Int32) hc3) (cwV 2 hts gX11_vote_X11_weightOf rfl rfl rfl (by decide +kernel) ⟨Nat.le_of_ble_eq_true rfl, Nat.le_of_ble_eq_true rfl⟩) (xpreV hK hW (k := 0) rfl (by decide) rfl) rfl rfl hl.1 rfl (lv_room (Nat.le_of_ble_eq_true rfl)) dX11_vote_3 ⟨Nat.le_of_ble_eq_true rfl, Nat.le_of_ble_eq_true rfl⟩) hW (fun H locs hW => ?_)
  refine lv_istore_n (lv' := [(2, .int r_1), (0, .ref (ad 0)), (1, .int x1)]) hx hb dX11_vote_6 rfl hl (by decide) rfl (fun ls hl => ?_)
  refine lv_iconst (v := (0 : Int32)) hx hb dX11_vote_7 (by decide) ?_
  refine lv_istore_n (lv' := [(3, .int (0 : Int32)), (2, .int r_1), (0, .ref (ad 0)), (1, .int x1)]) hx hb dX11_vote_8 rfl hl (by decide) rfl (fun ls hl => ?_)
  refine lv_iconst (v := (0 : Int32)) hx hb dX11_vote_9 (by decide) ?_
  refine lv_istore (lv' := [(4, .int (0 : Int32)), (3, .int (0 : Int32)), (2, .int r_1), (0, .ref (ad 0)), (1, .int x1)]) hx hb dX11_vote_10 hl (by decide) rfl (fun ls hl => ?_)
  have hL12_1 : ∀ (n : Nat) (x3_2 : Int32) (x4_3 : Int32) (M_4 : Mm) (H : Heap) (locs : List Loc) (ls : Array Slot) (x3_5 : Int32) (M_6 : Mm), Xw D false cA ad M_4 (AX false ad) s.heap H locs → lv_has ls 8 [(2, .int r_1), (0, .ref (ad 0)), (1, .int x1), (3, .int x3_2), (4, .int x4_3)] → f_X11_vote_L12 x1 r_1 n x3_2 x4_3 M_4 = some (x3_5, M_6) → (∀ (H : Heap) (locs : List Loc) (ls : Array Slot), Xw D false cA ad M_6 (AX false ad) s.heap H locs → lv_has ls 8 [(0, .ref (ad 0)), (1, .int x1), (3, .int x3_5)] → W p l e (headSpec wsX11_vote { frames := 2, cells := 0, slots := 0, locals := 46 }).room s m args below meth c H locs 0 0 (MQ below (QvX false D false cA ad M') args s 0 0 (AX false ad)) (F0 m 142 ls [])) → W p l e (headSpec wsX11_vote { frames := 2, cells := 0, slots := 0, locals := 46 }).room s m args below meth c H locs 0 0 (MQ below (QvX false D false cA ad M') args s 0 0 (AX false ad)) (F0 m 12 ls []) := by
    intro n
    induction n with
    | zero =>
      intro x3_2 x4_3 M_4 H locs ls x3_5 M_6 hW hl hr hk
      exact absurd hr (by simp [f_X11_vote_L12])
    | succ n ih =>
      intro x3_2 x4_3 M_4 H locs ls x3_5 M_6 hW hl hr hk
      rw [f_X11_vote_L12] at hr
      refine lv_iload hx hb dX11_vote_12 (lv_at hl 4 rfl) ?_
      refine lv_aload_n hx hb dX11_vote_14 rfl (lv_at hl 1 rfl) ?_
      refine g11_0 hx hb hts hi11 hown hK hW (k := 0) rfl (hts _ (wm 1 rfl)) dX11_vote_15 ?_
      refine lv_bipush (v := (64 : Int32)) hx hb dX11_vote_18 (by decide) ?_
      refine xiald hx hb hK hW (k := 1) (t := 24) rfl (by decide) (by decide) rfl (n := 159) (by decide) (jx := 64) (by decide) dX11_vote_20 ?_
      refine lv_icmp_ge (tgt := 142) hx hb dX11_vote_21 (by decide) (fun c1 => ?_) (fun c1 => ?_)
      · have hr := br_p c1 hr
        obtain ⟨e1, e2⟩ := Prod.mk.inj (Option.some.inj hr)
        subst e1
        subst e2
        exact hk _ _ _ hW (lv_sub hl [1, 2, 3] rfl)
      · have hr := br_n c1 hr
        refine lv_aload_n hx hb dX11_vote_24 rfl (lv_at hl 1 rfl) ?_
        refine g11_11 hx hb hts hi11 hown hK hW (k := 0) rfl (hts _ (wm 2 rfl)) dX11_vote_25 ?_
        refine lv_iconst (v := (2 : Int32)) hx hb dX11_vote_28 (by decide) ?_
        refine lv_iload hx hb dX11_vote_29 (lv_at hl 4 rfl) ?_
        refine lv_imul hx hb dX11_vote_31 ?_
        refine lv_iload_n hx hb dX11_vote_32 rfl (lv_at hl 2 rfl) ?_
        refine lv_iadd hx hb dX11_vote_33 ?_
        obtain ⟨hn34, hr⟩ := chk_e hr
        refine xiald hx hb hK hW (k := 10) (t := 27) rfl (by decide) (by decide) rfl (n := 8) hn34 (jx := (ix (((2 : Int32) * x4_3) + x1))) rfl dX11_vote_34 ?_
        obtain ⟨x5_7, ex5_7, hr⟩ := lt1_e hr
        rw [← ex5_7]
        refine lv_istore (lv' := [(5, .int x5_7), (2, .int r_1), (0, .ref (ad 0)), (1, .int x1), (3, .int x3_2), (4, .int x4_3)]) hx hb dX11_vote_35 hl (by decide) rfl (fun ls hl => ?_)
        refine lv_aload_n hx hb dX11_vote_37 rfl (lv_at hl 2 rfl) ?_
        refine g11_12 hx hb hts hi11 hown hK hW (k := 0) rfl (hts _ (wm 3 rfl)) dX11_vote_38 ?_
        refine lv_iload hx hb dX11_vote_41 (lv_at hl 5 rfl) ?_
        obtain ⟨hn43, hr⟩ := chk_e hr
        refine xzald hx hb hK hW (k := 11) (t := 30) rfl (by decide) (by decide) rfl (n := 4) hn43 (jx := (ix x4_3)) rfl dX11_vote_43 ?_
        obtain ⟨y_8, hr, hr3⟩ := ob1_e hr
        have hj79_8 : ∀ (H : Heap) (locs : List Loc) (ls : Array Slot), Xw D false cA ad M_4 (AX false ad) s.heap H locs → lv_has ls 8 [(5, .int x5_7), (2, .int r_1), (0, .ref (ad 0)), (1, .int x1), (3, .int x3_2), (4, .int x4_3)] → W p l e (headSpec wsX11_vote { frames := 2, cells := 0, slots := 0, locals := 46 }).room s m args below meth c H locs 0 0 (MQ below (QvX false D false cA ad M') args s 0 0 (AX false ad)) (F0 m 79 ls [.int y_8]) := by
          intro H locs ls hW hl
          have hr := hr3
          refine lv_istore (lv' := [(6, .int y_8), (5, .int x5_7), (2, .int r_1), (0, .ref (ad 0)), (1, .int x1), (3, .int x3_2), (4, .int x4_3)]) hx hb dX11_vote_79 hl (by decide) rfl (fun ls hl => ?_)
          refine lv_iconst (v := (0 : Int32)) hx hb dX11_vote_81 (by decide) ?_
          refine lv_istore (lv' := [(7, .int (0 : Int32)), (6, .int y_8), (5, .int x5_7), (2, .int r_1), (0, .ref (ad 0)), (1, .int x1), (3, .int x3_2), (4, .int x4_3)]) hx hb dX11_vote_82 hl (by decide) rfl (fun ls hl => ?_)
          have hL84_2 : ∀ (n : Nat) (x6_10 : Int32) (x7_11 : Int32) (H : Heap) (locs : List Loc) (ls : Array Slot) (x6_12 : Int32), Xw D false cA ad M_4 (AX false ad) s.heap H locs → lv_has ls 8 [(5, .int x5_7), (2, .int r_1), (0, .ref (ad 0)), (1, .int x1), (3, .int x3_2), (4, .int x4_3), (6, .int x6_10), (7, .int x7_11)] → f_X11_vote_L84 x3_2 M_4 x5_7 n x6_10 x7_11 = some x6_12 → (∀ (H : Heap) (locs : List Loc) (ls : Array Slot), Xw D false cA ad M_4 (AX false ad) s.heap H locs → lv_has ls 8 [(5, .int x5_7), (2, .int r_1), (0, .ref (ad 0)), (1, .int x1), (3, .int x3_2), (4, .int x4_3), (6, .int x6_12)] → W p l e (headSpec wsX11_vote { frames := 2, cells := 0, slots := 0, locals := 46 }).room s m args below meth c H locs 0 0 (MQ below (QvX false D false cA ad M') args s 0 0 (AX false ad)) (F0 m 120 ls [])) → W p l e (headSpec wsX11_vote { frames := 2, cells := 0, slots := 0, locals := 46 }).room s m args below meth c H locs 0 0 (MQ below (QvX false D false cA ad M') args s 0 0 (AX false ad)) (F0 m 84 ls []) := by
            intro n
            induction n with
            | zero =>
              intro x6_10 x7_11 H locs ls x6_12 hW hl hr hk
              exact absurd hr (by simp [f_X11_vote_L84])
            | succ n ih =>
              intro x6_10 x7_11 H locs ls x6_12 hW hl hr hk
              rw [f_X11_vote_L84] at hr
              refine lv_iload hx hb dX11_vote_84 (lv_at hl 7 rfl) ?_
              refine lv_iload_n hx hb dX11_vote_86 rfl (lv_at hl 4 rfl) ?_
              refine lv_icmp_ge (tgt := 120) hx hb dX11_vote_87 (by decide) (fun c1 => ?_) (fun c1 => ?_)
              · have hr := br_p c1 hr
                have e1 := Option.some.inj hr
                subst e1
                exact hk _ _ _ hW (lv_sub hl [0, 1, 2, 3, 4, 5, 6] rfl)
              · have hr := br_n c1 hr
                refine lv_iload hx hb dX11_vote_90 (lv_at hl 6 rfl) ?_
                obtain ⟨y_13, hr, hr3⟩ := ob1_e hr
                have hj112_13 : ∀ (H : Heap) (locs : List Loc) (ls : Array Slot), Xw D false cA ad M_4 (AX false ad) s.heap H locs → lv_has ls 8 [(5, .int x5_7), (2, .int r_1), (0, .ref (ad 0)), (1, .int x1), (3, .int x3_2), (4, .int x4_3), (7, .int x7_11)] → W p l e (headSpec wsX11_vote { frames := 2, cells := 0, slots := 0, locals := 46 }).room s m args below meth c H locs 0 0 (MQ below (QvX false D false cA ad M') args s 0 0 (AX false ad)) (F0 m 112 ls [.int y_13]) := by
                  intro H locs ls hW hl
                  have hr := hr3
                  refine lv_istore (lv' := [(6, .int y_13), (5, .int x5_7), (2, .int r_1), (0, .ref (ad 0)), (1, .int x1), (3, .int x3_2), (4, .int x4_3), (7, .int x7_11)]) hx hb dX11_vote_112 hl (by decide) rfl (fun ls hl => ?_)
                  obtain ⟨x7_14, ex7_14, hr⟩ := lt1_e hr
                  refine lv_iinc (v := x7_14) (lv' := [(7, .int x7_14), (6, .int y_13), (5, .int x5_7), (2, .int r_1), (0, .ref (ad 0)), (1, .int x1), (3, .int x3_2), (4, .int x4_3)]) hx hb dX11_vote_114 hl (k := 7) rfl (by rw [ex7_14]; rfl) (by decide) rfl (fun ls hl => ?_)
                  refine lv_goto (tgt := 84) hx hb dX11_vote_117 (by decide) ?_
                  exact ih y_13 x7_14 _ _ _ _ hW (lv_sub hl [2, 3, 4, 5, 6, 7, 1, 0] rfl) hr hk
                clear hr3
                refine lv_if_eq (tgt := 111) hx hb dX11_vote_92 (by decide) (fun c1 => ?_) (fun c1 => ?_)
                · have hr := br_p c1 hr
                  refine lv_iconst (v := (0 : Int32)) hx hb dX11_vote_111 (by decide) ?_
                  have e1 := Option.some.inj hr
                  subst e1
                  exact hj112_13 _ _ _ hW (lv_sub hl [0, 1, 2, 3, 4, 5, 7] rfl)
                · have hr := br_n c1 hr
                  refine lv_aload_n hx hb dX11_vote_95 rfl (lv_at hl 2 rfl) ?_
                  refine g11_20 hx hb hts hi11 hown hK hW (k := 0) rfl (hts _ (wm 4 rfl)) dX11_vote_96 ?_
                  refine lv_iload hx hb dX11_vote_99 (lv_at hl 7 rfl) ?_
                  obtain ⟨hn101, hr⟩ := chk_e hr
                  refine xiald hx hb hK hW (k := 14) (t := 20) rfl (by decide) (by decide) rfl (n := 4) hn101 (jx := (ix x7_11)) rfl dX11_vote_101 ?_
                  refine lv_iload hx hb dX11_vote_102 (lv_at hl 0 rfl) ?_
                  refine lv_icmp_eq (tgt := 111) hx hb dX11_vote_104 (by decide) (fun c1 => ?_) (fun c1 => ?_)
                  · have hr := br_p c1 hr
                    refine lv_iconst (v := (0 : Int32)) hx hb dX11_vote_111 (by decide) ?_
                    have e1 := Option.some.inj hr
                    subst e1
                    exact hj112_13 _ _ _ hW (lv_sub hl [0, 1, 2, 3, 4, 5, 7] rfl)
                  · have hr := br_n c1 hr
                    refine lv_iconst (v := (1 : Int32)) hx hb dX11_vote_107 (by decide) ?_
                    refine lv_goto (tgt := 112) hx hb dX11_vote_108 (by decide) ?_
                    have e1 := Option.some.inj hr
                    subst e1
                    exact hj112_13 _ _ _ hW (lv_sub hl [0, 1, 2, 3, 4, 5, 7] rfl)
          obtain ⟨x6_12, hr, hr3⟩ := ob1_e hr
          refine hL84_2 1000 y_8 (0 : Int32) _ _ _ x6_12 hW (lv_sub hl [2, 3, 4, 5, 6, 7, 1, 0] rfl) hr (fun H locs ls hW hl => ?_)
          clear hr
          have hr := hr3
          refine lv_iload hx hb dX11_vote_120 (lv_at hl 6 rfl) ?_
          obtain ⟨x3_15, M_16, hr, hr3⟩ := ob2_e hr
          have hj136_16 : ∀ (H : Heap) (locs : List Loc) (ls : Array Slot), Xw D false cA ad M_16 (AX false ad) s.heap H locs → lv_has ls 8 [(2, .int r_1), (0, .ref (ad 0)), (1, .int x1), (4, .int x4_3), (3, .int x3_15)] → W p l e (headSpec wsX11_vote { frames := 2, cells := 0, slots := 0, locals := 46 }).room s m args below meth c H locs 0 0 (MQ below (QvX false D false cA ad M') args s 0 0 (AX false ad)) (F0 m 136 ls []) := by
            intro H locs ls hW hl
            have hr := hr3
            obtain ⟨x4_19, ex4_19, hr⟩ := lt1_e hr
            refine lv_iinc (v := x4_19) (lv' := [(4, .int x4_19), (2, .int r_1), (0, .ref (ad 0)), (1, .int x1), (3, .int x3_15)]) hx hb dX11_vote_136 hl (k := 3) rfl (by rw [ex4_19]; rfl) (by decide) rfl (fun ls hl => ?_)
            refine lv_goto (tgt := 12) hx hb dX11_vote_139 (by decide) ?_
            exact ih x3_15 x4_19 M_16 _ _ _ _ _ hW (lv_sub hl [1, 2, 3, 4, 0] rfl) hr hk
          clear hr3
          refine lv_if_eq (tgt := 136) hx hb dX11_vote_122 (by decide) (fun c1 => ?_) (fun c1 => ?_)
          · have hr := br_p c1 hr
            obtain ⟨e1, e2⟩ := Prod.mk.inj (Option.some.inj hr)
            subst e1
            subst e2
            exact hj136_16 _ _ _ hW (lv_sub hl [1, 2, 3, 5, 4] rfl)
          · have hr := br_n c1 hr
            refine lv_aload_n hx hb dX11_vote_125 rfl (lv_at hl 2 rfl) ?_
            refine g11_20 hx hb hts hi11 hown hK hW (k := 0) rfl (hts _ (wm 4 rfl)) dX11_vote_126 ?_
            refine lv_iload_n hx hb dX11_vote_129 rfl (lv_at hl 4 rfl) ?_
            refine lv_iload hx hb dX11_vote_130 (lv_at hl 0 rfl) ?_
            obtain ⟨hn132, hr⟩ := chk_e hr
            obtain ⟨M_17, eM_17, hr⟩ := lt1_e hr
            refine xiast hx hb hK hW (k := 14) (t := 20) rfl (by decide) (by decide) rfl (n := 4) hn132 (jx := (ix x3_2)) rfl dX11_vote_132 (fun H locs hW => ?_)
            rw [← eM_17] at hW
            obtain ⟨x3_18, ex3_18, hr⟩ := lt1_e hr
            refine lv_iinc (v := x3_18) (lv' := [(3, .int x3_18), (5, .int x5_7), (2, .int r_1), (0, .ref (ad 0)), (1, .int x1), (4, .int x4_3), (6, .int x6_12)]) hx hb dX11_vote_133 hl (k := 4) rfl (by rw [ex3_18]; rfl) (by decide) rfl (fun ls hl => ?_)
            obtain ⟨e1, e2⟩ := Prod.mk.inj (Option.some.inj hr)
            subst e1
            subst e2
            exact hj136_16 _ _ _ hW (lv_sub hl [2, 3, 4, 5, 0] rfl)
        clear hr3
        refine lv_if_eq (tgt := 78) hx hb dX11_vote_44 (by decide) (fun c1 => ?_) (fun c1 => ?_)
        · have hr := br_p c1 hr
          refine lv_iconst (v := (0 : Int32)) hx hb dX11_vote_78 (by decide) ?_
          have e1 := Option.some.inj hr
          subst e1
          exact hj79_8 _ _ _ hW (lv_sub hl [0, 1, 2, 3, 4, 5] rfl)
        · have hr := br_n c1 hr
          refine lv_iload hx hb dX11_vote_47 (lv_at hl 0 rfl) ?_
          refine lv_if_eq (tgt := 78) hx hb dX11_vote_49 (by decide) (fun c1 => ?_) (fun c1 => ?_)
          · have hr := br_p c1 hr
            refine lv_iconst (v := (0 : Int32)) hx hb dX11_vote_78 (by decide) ?_
            have e1 := Option.some.inj hr
            subst e1
            exact hj79_8 _ _ _ hW (lv_sub hl [0, 1, 2, 3, 4, 5] rfl)
          · have hr := br_n c1 hr
            refine lv_aload_n hx hb dX11_vote_52 rfl (lv_at hl 2 rfl) ?_
            refine lv_iload_n hx hb dX11_vote_53 rfl (lv_at hl 3 rfl) ?_
            refine lv_iload hx hb dX11_vote_54 (lv_at hl 0 rfl) ?_
            obtain ⟨r_9, hc56, hr⟩ := ob1_e hr
            refine xk_i (va_runV (As := [.int x1, .int x5_7]) (rest := []) ⟨hx, hb, hml, hown, hts⟩ (c_X11_weightOf l D cA ad M_4 x1 x5_7 hc56) (cwV 2 hts gX11_vote_X11_weightOf rfl rfl rfl (by decide +kernel) ⟨Nat.le_of_ble_eq_true rfl, Nat.le_of_ble_eq_true rfl⟩) (xpreV hK hW (k := 0) rfl (by decide) rfl) rfl rfl hl.1 rfl (lv_room (Nat.le_of_ble_eq_true rfl)) dX11_vote_56 ⟨Nat.le_of_ble_eq_true rfl, Nat.le_of_ble_eq_true rfl⟩) hW (fun H locs hW => ?_)
            refine lv_bipush (v := (100 : Int32)) hx hb dX11_vote_59 (by decide) ?_
            refine lv_imul hx hb dX11_vote_61 ?_
            refine lv_aload_n hx hb dX11_vote_62 rfl (lv_at hl 2 rfl) ?_
            refine g11_0 hx hb hts hi11 hown hK hW (k := 0) rfl (hts _ (wm 1 rfl)) dX11_vote_63 ?_
            refine lv_bipush (v := (80 : Int32)) hx hb dX11_vote_66 (by decide) ?_
            refine xiald hx hb hK hW (k := 1) (t := 24) rfl (by decide) (by decide) rfl (n := 159) (by decide) (jx := 80) (by decide) dX11_vote_68 ?_
            refine lv_iload_n hx hb dX11_vote_69 rfl (lv_at hl 1 rfl) ?_
            refine lv_imul hx hb dX11_vote_70 ?_
            refine lv_icmp_lt (tgt := 78) hx hb dX11_vote_71 (by decide) (fun c1 => ?_) (fun c1 => ?_)
            · have hr := br_p c1 hr
              refine lv_iconst (v := (0 : Int32)) hx hb dX11_vote_78 (by decide) ?_
              have e1 := Option.some.inj hr
              subst e1
              exact hj79_8 _ _ _ hW (lv_sub hl [0, 1, 2, 3, 4, 5] rfl)
            · have hr := br_n c1 hr
              refine lv_iconst (v := (1 : Int32)) hx hb dX11_vote_74 (by decide) ?_
              refine lv_goto (tgt := 79) hx hb dX11_vote_75 (by decide) ?_
              have e1 := Option.some.inj hr
              subst e1
              exact hj79_8 _ _ _ hW (lv_sub hl [0, 1, 2, 3, 4, 5] rfl)
  obtain ⟨x3_5, M_6, hr, hr3⟩ := ob2_e hr
  refine hL12_1 1000 (0 : Int32) (0 : Int32) M _ _ _ x3_5 M_6 hW (lv_sub hl [2, 3, 4, 1, 0] rfl) hr (fun H locs ls hW hl => ?_)
  clear hr
  have hr := hr3
  refine lv_aload_n hx hb dX11_vote_142 rfl (lv_at hl 0 rfl) ?_
  refine lv_dup hx hb dX11_vote_143 rfl ?_
  refine g11_15 hx hb hts hi11 hown hK hW (k := 0) rfl (hts _ (wm 5 rfl)) dX11_vote_144 ?_
  refine lv_iload_n hx hb dX11_vote_147 rfl (lv_at hl 2 rfl) ?_
  refine lv_iadd hx hb dX11_vote_148 ?_
  obtain ⟨M_20, eM_20, hr⟩ := lt1_e hr
  refine p11_15 hx hb hts hi11 hown hK hW (k := 0) rfl (hts _ (wm 5 rfl)) dX11_vote_149 (fun H locs hW => ?_)
  rw [← eM_20] at hW
  refine lv_iconst (v := (0 : Int32)) hx hb dX11_vote_152 (by decide) ?_
  refine lv_istore (lv' := [(4, .int (0 : Int32)), (0, .ref (ad 0)), (1, .int x1), (3, .int x3_5)]) hx hb dX11_vote_153 hl (by decide) rfl (fun ls hl => ?_)
  have hL155_3 : ∀ (n : Nat) (x4_21 : Int32) (M_22 : Mm) (H : Heap) (locs : List Loc) (ls : Array Slot), Xw D false cA ad M_22 (AX false ad) s.heap H locs → lv_has ls 8 [(0, .ref (ad 0)), (1, .int x1), (3, .int x3_5), (4, .int x4_21)] → f_X11_vote_L155 x1 x3_5 n x4_21 M_22 = some M' → W p l e (headSpec wsX11_vote { frames := 2, cells := 0, slots := 0, locals := 46 }).room s m args below meth c H locs 0 0 (MQ below (QvX false D false cA ad M') args s 0 0 (AX false ad)) (F0 m 155 ls []) := by
    intro n
    induction n with
    | zero =>
      intro x4_21 M_22 H locs ls hW hl hr
      exact absurd hr (by simp [f_X11_vote_L155])
    | succ n ih =>
      intro x4_21 M_22 H locs ls hW hl hr
      rw [f_X11_vote_L155] at hr
      refine lv_iload hx hb dX11_vote_155 (lv_at hl 3 rfl) ?_
      refine lv_aload_n hx hb dX11_vote_157 rfl (lv_at hl 0 rfl) ?_
      refine g11_0 hx hb hts hi11 hown hK hW (k := 0) rfl (hts _ (wm 1 rfl)) dX11_vote_158 ?_
      refine lv_bipush (v := (64 : Int32)) hx hb dX11_vote_161 (by decide) ?_
      refine xiald hx hb hK hW (k := 1) (t := 24) rfl (by decide) (by decide) rfl (n := 159) (by decide) (jx := 64) (by decide) dX11_vote_163 ?_
      refine lv_icmp_ge (tgt := 235) hx hb dX11_vote_164 (by decide) (fun c1 => ?_) (fun c1 => ?_)
      · have hr := br_p c1 hr
        rw [← Option.some.inj hr]
        exact xvret hx hb hr0 hlocks hW adR_rf dX11_vote_235
      · have hr := br_n c1 hr
        refine lv_iconst (v := (0 : Int32)) hx hb dX11_vote_167 (by decide) ?_
        refine lv_istore (lv' := [(5, .int (0 : Int32)), (0, .ref (ad 0)), (1, .int x1), (3, .int x3_5), (4, .int x4_21)]) hx hb dX11_vote_168 hl (by decide) rfl (fun ls hl => ?_)
        have hL170_4 : ∀ (n : Nat) (x5_23 : Int32) (M_24 : Mm) (H : Heap) (locs : List Loc) (ls : Array Slot) (M_25 : Mm), Xw D false cA ad M_24 (AX false ad) s.heap H locs → lv_has ls 8 [(0, .ref (ad 0)), (1, .int x1), (3, .int x3_5), (4, .int x4_21), (5, .int x5_23)] → f_X11_vote_L170 x1 x3_5 x4_21 n x5_23 M_24 = some M_25 → (∀ (H : Heap) (locs : List Loc) (ls : Array Slot), Xw D false cA ad M_25 (AX false ad) s.heap H locs → lv_has ls 8 [(0, .ref (ad 0)), (1, .int x1), (3, .int x3_5), (4, .int x4_21)] → W p l e (headSpec wsX11_vote { frames := 2, cells := 0, slots := 0, locals := 46 }).room s m args below meth c H locs 0 0 (MQ below (QvX false D false cA ad M') args s 0 0 (AX false ad)) (F0 m 229 ls [])) → W p l e (headSpec wsX11_vote { frames := 2, cells := 0, slots := 0, locals := 46 }).room s m args below meth c H locs 0 0 (MQ below (QvX false D false cA ad M') args s 0 0 (AX false ad)) (F0 m 170 ls []) := by
          intro n
          induction n with
          | zero =>
            intro x5_23 M_24 H locs ls M_25 hW hl hr hk
            exact absurd hr (by simp [f_X11_vote_L170])
          | succ n ih =>
            intro x5_23 M_24 H locs ls M_25 hW hl hr hk
            rw [f_X11_vote_L170] at hr
            refine lv_iload hx hb dX11_vote_170 (lv_at hl 4 rfl) ?_
            refine lv_iload_n hx hb dX11_vote_172 rfl (lv_at hl 2 rfl) ?_
            refine lv_icmp_ge (tgt := 229) hx hb dX11_vote_173 (by decide) (fun c1 => ?_) (fun c1 => ?_)
            · have hr := br_p c1 hr
              have e1 := Option.some.inj hr
              subst e1
              exact hk _ _ _ hW (lv_sub hl [0, 1, 2, 3] rfl)
            · have hr := br_n c1 hr
              refine lv_aload_n hx hb dX11_vote_176 rfl (lv_at hl 0 rfl) ?_
              refine g11_11 hx hb hts hi11 hown hK hW (k := 0) rfl (hts _ (wm 2 rfl)) dX11_vote_177 ?_
              refine lv_iconst (v := (2 : Int32)) hx hb dX11_vote_180 (by decide) ?_
              refine lv_iload hx hb dX11_vote_181 (lv_at hl 3 rfl) ?_
              refine lv_imul hx hb dX11_vote_183 ?_
              refine lv_iload_n hx hb dX11_vote_184 rfl (lv_at hl 1 rfl) ?_
              refine lv_iadd hx hb dX11_vote_185 ?_
              refine lv_aload_n hx hb dX11_vote_186 rfl (lv_at hl 0 rfl) ?_
              refine g11_11 hx hb hts hi11 hown hK hW (k := 0) rfl (hts _ (wm 2 rfl)) dX11_vote_187 ?_
              refine lv_iconst (v := (2 : Int32)) hx hb dX11_vote_190 (by decide) ?_
              refine lv_iload hx hb dX11_vote_191 (lv_at hl 3 rfl) ?_
              refine lv_imul hx hb dX11_vote_193 ?_
              refine lv_iload_n hx hb dX11_vote_194 rfl (lv_at hl 1 rfl) ?_
              refine lv_iadd hx hb dX11_vote_195 ?_
              obtain ⟨hn196, hr⟩ := chk_e hr
              refine xiald hx hb hK hW (k := 10) (t := 27) rfl (by decide) (by decide) rfl (n := 8) hn196 (jx := (ix (((2 : Int32) * x4_21) + x1))) rfl dX11_vote_196 ?_
              refine lv_aload_n hx hb dX11_vote_197 rfl (lv_at hl 0 rfl) ?_
              refine g11_20 hx hb hts hi11 hown hK hW (k := 0) rfl (hts _ (wm 4 rfl)) dX11_vote_198 ?_
              refine lv_iload hx hb dX11_vote_201 (lv_at hl 4 rfl) ?_
              obtain ⟨hn203, hr⟩ := chk_e hr
              refine xiald hx hb hK hW (k := 14) (t := 20) rfl (by decide) (by decide) rfl (n := 4) hn203 (jx := (ix x5_23)) rfl dX11_vote_203 ?_
              obtain ⟨y_26, hr, hr3⟩ := ob1_e hr
              have hj222_26 : ∀ (H : Heap) (locs : List Loc) (ls : Array Slot), Xw D false cA ad M_24 (AX false ad) s.heap H locs → lv_has ls 8 [(0, .ref (ad 0)), (1, .int x1), (3, .int x3_5), (4, .int x4_21), (5, .int x5_23)] → W p l e (headSpec wsX11_vote { frames := 2, cells := 0, slots := 0, locals := 46 }).room s m args below meth c H locs 0 0 (MQ below (QvX false D false cA ad M') args s 0 0 (AX false ad)) (F0 m 222 ls [.int y_26, .int (((2 : Int32) * x4_21) + x1), .ref (ad 10)]) := by
                intro H locs ls hW hl
                have hr := hr3
                obtain ⟨hn222, hr⟩ := chk_e hr
                obtain ⟨M_27, eM_27, hr⟩ := lt1_e hr
                refine xiast hx hb hK hW (k := 10) (t := 27) rfl (by decide) (by decide) rfl (n := 8) hn222 (jx := (ix (((2 : Int32) * x4_21) + x1))) rfl dX11_vote_222 (fun H locs hW => ?_)
                rw [← eM_27] at hW
                obtain ⟨x5_28, ex5_28, hr⟩ := lt1_e hr
                refine lv_iinc (v := x5_28) (lv' := [(5, .int x5_28), (0, .ref (ad 0)), (1, .int x1), (3, .int x3_5), (4, .int x4_21)]) hx hb dX11_vote_223 hl (k := 4) rfl (by rw [ex5_28]; rfl) (by decide) rfl (fun ls hl => ?_)
                refine lv_goto (tgt := 170) hx hb dX11_vote_226 (by decide) ?_
                exact ih x5_28 M_27 _ _ _ _ hW (lv_sub hl [1, 2, 3, 4, 0] rfl) hr hk
              clear hr3
              refine lv_icmp_ne (tgt := 211) hx hb dX11_vote_204 (by decide) (fun c1 => ?_) (fun c1 => ?_)
              · have hr := br_n c1 hr
                refine lv_aload_n hx hb dX11_vote_211 rfl (lv_at hl 0 rfl) ?_
                refine g11_11 hx hb hts hi11 hown hK hW (k := 0) rfl (hts _ (wm 2 rfl)) dX11_vote_212 ?_
                refine lv_iconst (v := (2 : Int32)) hx hb dX11_vote_215 (by decide) ?_
                refine lv_iload hx hb dX11_vote_216 (lv_at hl 3 rfl) ?_
                refine lv_imul hx hb dX11_vote_218 ?_
                refine lv_iload_n hx hb dX11_vote_219 rfl (lv_at hl 1 rfl) ?_
                refine lv_iadd hx hb dX11_vote_220 ?_
                obtain ⟨hn221, hr⟩ := chk_e hr
                refine xiald hx hb hK hW (k := 10) (t := 27) rfl (by decide) (by decide) rfl (n := 8) hn221 (jx := (ix (((2 : Int32) * x4_21) + x1))) rfl dX11_vote_221 ?_
                have e1 := Option.some.inj hr
                subst e1
                exact hj222_26 _ _ _ hW (lv_sub hl [0, 1, 2, 3, 4] rfl)
              · have hr := br_p c1 hr
                refine lv_iconst (v := (0 : Int32)) hx hb dX11_vote_207 (by decide) ?_
                refine lv_goto (tgt := 222) hx hb dX11_vote_208 (by decide) ?_
                have e1 := Option.some.inj hr
                subst e1
                exact hj222_26 _ _ _ hW (lv_sub hl [0, 1, 2, 3, 4] rfl)
        obtain ⟨M_25, hr, hr3⟩ := ob1_e hr
        refine hL170_4 1000 (0 : Int32) M_22 _ _ _ M_25 hW (lv_sub hl [1, 2, 3, 4, 0] rfl) hr (fun H locs ls hW hl => ?_)
        clear hr
        have hr := hr3
        obtain ⟨x4_29, ex4_29, hr⟩ := lt1_e hr
        refine lv_iinc (v := x4_29) (lv' := [(4, .int x4_29), (0, .ref (ad 0)), (1, .int x1), (3, .int x3_5)]) hx hb dX11_vote_229 hl (k := 3) rfl (by rw [ex4_29]; rfl) (by decide) rfl (fun ls hl => ?_)
        refine lv_goto (tgt := 155) hx hb dX11_vote_232 (by decide) ?_
        exact ih x4_29 M_25 _ _ _ hW (lv_sub hl [1, 2, 3, 0] rfl) hr
  exact hL155_3 1000 (0 : Int32) M_20 _ _ _ hW (lv_sub hl [1, 2, 3, 0] rfl) hr

set_option maxHeartbeats 4000000 in
set_option maxRecDepth 100000 in
theorem c_X11_size (l : Launch) (D : va_G) (cA : Nat → ClassId) (ad : Nat → Nat) (M : Mm) (x0 : Int32) {r : Int32} (hr : f_X11_size x0 M = some r) : Met l yX11_size wsX11_size ({ frames := 0, cells := 0, slots := 0, locals := 0 }) (PcX D false cA ad M [.int x0]) (QiX false D false cA ad r M) 0 0 (AX false ad) := by
  refine Met.ofW (cc := cX11_size) (maxL := 1) (ret := (some .int)) (by decide) rfl ?_
  intro p e s m args below meth c s₁ B hml hv
  obtain ⟨hav, hP0, hK⟩ := hv
  have hx := B.exec
  have hb := B.bytes
  have hr0 := B.returns
  have hts := atoms_spec (ws := wsX11_size) B.pre
  have hown : s.vm.findClass RX11 = some m.cls := findClass_of_methodNamed B.named
  have hlocks := B.notSynchronized
  have hW := xstart hP0
  have hl := lv_entry ([.int x0]) (n := 1) (Nat.le_of_ble_eq_true rfl)
  have hef := lg_entry_eq m ([.int x0]) 1
  rw [← hav] at hef
  rw [hef]
  clear hef
  generalize (lg_sl ([.int x0]) ++ List.replicate (1 - (lg_sl ([.int x0])).length) Slot.unset).toArray = ls at hl ⊢
  have hl : lv_has ls 1 [(0, .int x0)] := hl
  clear hP0
  unfold f_X11_size at hr
  refine lv_iload_n hx hb dX11_size_0 rfl (lv_at hl 0 rfl) ?_
  refine lv_if_ge (tgt := 9) hx hb dX11_size_1 (by decide) (fun c1 => ?_) (fun c1 => ?_)
  · have hr := br_p c1 hr
    refine lv_iload_n hx hb dX11_size_9 rfl (lv_at hl 0 rfl) ?_
    rw [← Option.some.inj hr]
    exact xiret hx hb hr0 hlocks hW adR_rf dX11_size_10
  · have hr := br_n c1 hr
    refine lv_iload_n hx hb dX11_size_4 rfl (lv_at hl 0 rfl) ?_
    refine lv_ineg hx hb dX11_size_5 ?_
    refine lv_goto (tgt := 10) hx hb dX11_size_6 (by decide) ?_
    rw [← Option.some.inj hr]
    exact xiret hx hb hr0 hlocks hW adR_rf dX11_size_10

set_option maxHeartbeats 4000000 in
set_option maxRecDepth 100000 in
theorem c_X7_exchangeTimes (l : Launch) (D : va_G) (cA : Nat → ClassId) (ad : Nat → Nat) (M : Mm) (a0 : Nat) {M' : Mm} (ha0 : KS true a0 = 7) (hr : f_X7_exchangeTimes a0 M = some M') : Met l yX7_exchangeTimes wsX7_exchangeTimes ({ frames := 0, cells := 0, slots := 0, locals := 0 }) (PcX D true cA ad M [.ref (ad a0)]) (QvX false D true cA ad M') 0 0 (AX true ad) := by
  refine Met.ofW (cc := cX7_exchangeTimes) (maxL := 2) (ret := none) (by decide) rfl ?_
  intro p e s m args below meth c s₁ B hml hv
  obtain ⟨hav, hP0, hK⟩ := hv
  have hx := B.exec
  have hb := B.bytes
  have hr0 := B.returns
  have hts := atoms_spec (ws := wsX7_exchangeTimes) B.pre
  have hown : s.vm.findClass RX7 = some m.cls := findClass_of_methodNamed B.named
  have hlocks := B.notSynchronized
  have hW := xstart hP0
  have hi7 : ∀ w ∈ wsX70, w ∈ wsX7_exchangeTimes := fun w h => List.mem_cons_of_mem _ (List.mem_append_right _ h)
  have hl := lv_entry ([.ref (ad a0)]) (n := 2) (Nat.le_of_ble_eq_true rfl)
  have hef := lg_entry_eq m ([.ref (ad a0)]) 2
  rw [← hav] at hef
  rw [hef]
  clear hef
  generalize (lg_sl ([.ref (ad a0)]) ++ List.replicate (2 - (lg_sl ([.ref (ad a0)])).length) Slot.unset).toArray = ls at hl ⊢
  have hl : lv_has ls 2 [(0, .ref (ad a0))] := hl
  clear hP0
  unfold f_X7_exchangeTimes at hr
  refine lv_aload_n hx hb dX7_exchangeTimes_0 rfl (lv_at hl 0 rfl) ?_
  refine g7_1 hx hb hts hi7 hown hK hW (k := a0) ha0 (hts _ (wm 1 rfl)) dX7_exchangeTimes_1 ?_
  obtain ⟨x1_1, ex1_1, hr⟩ := lt1_e hr
  rw [← ex1_1]
  refine lv_istore_n (lv' := [(1, .int x1_1), (0, .ref (ad a0))]) hx hb dX7_exchangeTimes_4 rfl hl (by decide) rfl (fun ls hl => ?_)
  refine lv_aload_n hx hb dX7_exchangeTimes_5 rfl (lv_at hl 1 rfl) ?_
  refine lv_aload_n hx hb dX7_exchangeTimes_6 rfl (lv_at hl 1 rfl) ?_
  refine g7_2 hx hb hts hi7 hown hK hW (k := a0) ha0 (hts _ (wm 2 rfl)) dX7_exchangeTimes_7 ?_
  obtain ⟨M_2, eM_2, hr⟩ := lt1_e hr
  refine p7_1 hx hb hts hi7 hown hK hW (k := a0) ha0 (hts _ (wm 1 rfl)) dX7_exchangeTimes_10 (fun H locs hW => ?_)
  rw [← eM_2] at hW
  refine lv_aload_n hx hb dX7_exchangeTimes_13 rfl (lv_at hl 1 rfl) ?_
  refine lv_iload_n hx hb dX7_exchangeTimes_14 rfl (lv_at hl 0 rfl) ?_
  obtain ⟨M_3, eM_3, hr⟩ := lt1_e hr
  refine p7_2 hx hb hts hi7 hown hK hW (k := a0) ha0 (hts _ (wm 2 rfl)) dX7_exchangeTimes_15 (fun H locs hW => ?_)
  rw [← eM_3] at hW
  rw [← Option.some.inj hr]
  exact xvret hx hb hr0 hlocks hW adR_rf dX7_exchangeTimes_18

set_option maxHeartbeats 4000000 in
set_option maxRecDepth 100000 in
theorem c_X3_exchangeTimes (l : Launch) (D : va_G) (cA : Nat → ClassId) (ad : Nat → Nat) (M : Mm) (a0 : Nat) {M' : Mm} (ha0 : KS true a0 = 3) (hr : f_X3_exchangeTimes a0 M = some M') : Met l yX3_exchangeTimes wsX3_exchangeTimes ({ frames := 1, cells := 0, slots := 0, locals := 21 }) (PcX D true cA ad M [.ref (ad a0)]) (QvX false D true cA ad M') 0 0 (AX true ad) := by
  refine Met.ofW (cc := cX3_exchangeTimes) (maxL := 2) (ret := none) (by decide) rfl ?_
  intro p e s m args below meth c s₁ B hml hv
  obtain ⟨hav, hP0, hK⟩ := hv
  have hx := B.exec
  have hb := B.bytes
  have hr0 := B.returns
  have hts := atoms_spec (ws := wsX3_exchangeTimes) B.pre
  have hown : s.vm.findClass RX3 = some m.cls := findClass_of_methodNamed B.named
  have hlocks := B.notSynchronized
  have hW := xstart hP0
  have hi3 : ∀ w ∈ wsX30, w ∈ wsX3_exchangeTimes := fun w h => List.mem_cons_of_mem _ (List.mem_append_left _ (List.mem_append_right _ h))
  have hl := lv_entry ([.ref (ad a0)]) (n := 2) (Nat.le_of_ble_eq_true rfl)
  have hef := lg_entry_eq m ([.ref (ad a0)]) 2
  rw [← hav] at hef
  rw [hef]
  clear hef
  generalize (lg_sl ([.ref (ad a0)]) ++ List.replicate (2 - (lg_sl ([.ref (ad a0)])).length) Slot.unset).toArray = ls at hl ⊢
  have hl : lv_has ls 2 [(0, .ref (ad a0))] := hl
  clear hP0
  unfold f_X3_exchangeTimes at hr
  refine lv_aload_n hx hb dX3_exchangeTimes_0 rfl (lv_at hl 0 rfl) ?_
  refine g3_6 hx hb hts hi3 hown hK hW (k := a0) ha0 (hts _ (wm 1 rfl)) dX3_exchangeTimes_1 ?_
  obtain ⟨x1_1, ex1_1, hr⟩ := lt1_e hr
  rw [← ex1_1]
  refine lv_istore_n (lv' := [(1, .int x1_1), (0, .ref (ad a0))]) hx hb dX3_exchangeTimes_4 rfl hl (by decide) rfl (fun ls hl => ?_)
  refine lv_aload_n hx hb dX3_exchangeTimes_5 rfl (lv_at hl 1 rfl) ?_
  refine lv_aload_n hx hb dX3_exchangeTimes_6 rfl (lv_at hl 1 rfl) ?_
  refine g3_7 hx hb hts hi3 hown hK hW (k := a0) ha0 (hts _ (wm 2 rfl)) dX3_exchangeTimes_7 ?_
  obtain ⟨M_2, eM_2, hr⟩ := lt1_e hr
  refine p3_6 hx hb hts hi3 hown hK hW (k := a0) ha0 (hts _ (wm 1 rfl)) dX3_exchangeTimes_10 (fun H locs hW => ?_)
  rw [← eM_2] at hW
  refine lv_aload_n hx hb dX3_exchangeTimes_13 rfl (lv_at hl 1 rfl) ?_
  refine lv_iload_n hx hb dX3_exchangeTimes_14 rfl (lv_at hl 0 rfl) ?_
  obtain ⟨M_3, eM_3, hr⟩ := lt1_e hr
  refine p3_7 hx hb hts hi3 hown hK hW (k := a0) ha0 (hts _ (wm 2 rfl)) dX3_exchangeTimes_15 (fun H locs hW => ?_)
  rw [← eM_3] at hW
  refine lv_aload_n hx hb dX3_exchangeTimes_18 rfl (lv_at hl 1 rfl) ?_
  refine g3_15 hx hb hts hi3 hown hK hW (k := a0) ha0 (hts _ (wm 3 rfl)) dX3_exchangeTimes_19 ?_
  obtain ⟨M_4, hc22, hr⟩ := ob1_e hr
  refine xk_v (va_runV (As := []) (rest := []) ⟨hx, hb, hml, hown, hts⟩ (c_X7_exchangeTimes l D cA ad M_3 (a0 + 1) (ks_3s ha0) hc22) (cwV 0 hts gX3_exchangeTimes_X7_exchangeTimes rfl rfl rfl (by decide +kernel) ⟨Nat.le_of_ble_eq_true rfl, Nat.le_of_ble_eq_true rfl⟩) (xpreV hK hW (k := (a0 + 1)) (ks_3s ha0) (by decide) rfl) rfl rfl hl.1 rfl (lv_room (Nat.le_of_ble_eq_true rfl)) dX3_exchangeTimes_22 ⟨Nat.le_of_ble_eq_true rfl, Nat.le_of_ble_eq_true rfl⟩) hW (fun H locs hW => ?_)
  rw [← Option.some.inj hr]
  exact xvret hx hb hr0 hlocks hW adR_rf dX3_exchangeTimes_25

set_option maxHeartbeats 4000000 in
set_option maxRecDepth 100000 in
theorem c_X3_isTrustedBefore (l : Launch) (D : va_G) (cA : Nat → ClassId) (ad : Nat → Nat) (M : Mm) (a0 : Nat) (a1 : Nat) (x2 : Int32) {r : Int32} (ha0 : KS true a0 = 3) (ha1 : KS true a1 = 3) (hr : f_X3_isTrustedBefore a0 a1 x2 M = some r) : Met l yX3_isTrustedBefore wsX3_isTrustedBefore ({ frames := 1, cells := 0, slots := 0, locals := 20 }) (PcX D true cA ad M [.ref (ad a0), .ref (ad a1), .int x2]) (QiX false D true cA ad r M) 0 0 (AX true ad) := by
  refine Met.ofW (cc := cX3_isTrustedBefore) (maxL := 5) (ret := (some .boolean)) (by decide) rfl ?_
  intro p e s m args below meth c s₁ B hml hv
  obtain ⟨hav, hP0, hK⟩ := hv
  have hx := B.exec
  have hb := B.bytes
  have hr0 := B.returns
  have hts := atoms_spec (ws := wsX3_isTrustedBefore) B.pre
  have hown : s.vm.findClass RX3 = some m.cls := findClass_of_methodNamed B.named
  have hlocks := B.notSynchronized
  have hW := xstart hP0
  have hi3 : ∀ w ∈ wsX30, w ∈ wsX3_isTrustedBefore := fun w h => List.mem_cons_of_mem _ (List.mem_append_right _ h)
  have hl := lv_entry ([.ref (ad a0), .ref (ad a1), .int x2]) (n := 5) (Nat.le_of_ble_eq_true rfl)
  have hef := lg_entry_eq m ([.ref (ad a0), .ref (ad a1), .int x2]) 5
  rw [← hav] at hef
  rw [hef]
  clear hef
  generalize (lg_sl ([.ref (ad a0), .ref (ad a1), .int x2]) ++ List.replicate (5 - (lg_sl ([.ref (ad a0), .ref (ad a1), .int x2])).length) Slot.unset).toArray = ls at hl ⊢
  have hl : lv_has ls 5 [(0, .ref (ad a0)), (1, .ref (ad a1)), (2, .int x2)] := hl
  clear hP0
  unfold f_X3_isTrustedBefore at hr
  refine lv_aload_n hx hb dX3_isTrustedBefore_0 rfl (lv_at hl 0 rfl) ?_
  obtain ⟨r_1, hc1, hr⟩ := ob1_e hr
  refine xk_i (va_runV (As := []) (rest := []) ⟨hx, hb, hml, hown, hts⟩ (c_X3_fails l D cA ad M a0 ha0 hc1) (cwV 0 hts gX3_isTrustedBefore_X3_fails rfl rfl rfl (by decide +kernel) ⟨Nat.le_of_ble_eq_true rfl, Nat.le_of_ble_eq_true rfl⟩) (xpreV hK hW (k := a0) ha0 (by decide) rfl) rfl rfl hl.1 rfl (lv_room (Nat.le_of_ble_eq_true rfl)) dX3_isTrustedBefore_1 ⟨Nat.le_of_ble_eq_true rfl, Nat.le_of_ble_eq_true rfl⟩) hW (fun H locs hW => ?_)
  refine lv_aload_n hx hb dX3_isTrustedBefore_4 rfl (lv_at hl 1 rfl) ?_
  obtain ⟨r_2, hc5, hr⟩ := ob1_e hr
  refine xk_i (va_runV (As := []) (rest := [.int r_1]) ⟨hx, hb, hml, hown, hts⟩ (c_X3_fails l D cA ad M a1 ha1 hc5) (cwV 0 hts gX3_isTrustedBefore_X3_fails rfl rfl rfl (by decide +kernel) ⟨Nat.le_of_ble_eq_true rfl, Nat.le_of_ble_eq_true rfl⟩) (xpreV hK hW (k := a1) ha1 (by decide) rfl) rfl rfl hl.1 rfl (lv_room (Nat.le_of_ble_eq_true rfl)) dX3_isTrustedBefore_5 ⟨Nat.le_of_ble_eq_true rfl, Nat.le_of_ble_eq_true rfl⟩) hW (fun H locs hW => ?_)
  refine lv_icmp_eq (tgt := 16) hx hb dX3_isTrustedBefore_8 (by decide) (fun c1 => ?_) (fun c1 => ?_)
  · have hr := br_p c1 hr
    refine lv_aload_n hx hb dX3_isTrustedBefore_16 rfl (lv_at hl 0 rfl) ?_
    refine g3_12 hx hb hts hi3 hown hK hW (k := a0) ha0 (hts _ (wm 1 rfl)) dX3_isTrustedBefore_17 ?_
    refine lv_aload_n hx hb dX3_isTrustedBefore_20 rfl (lv_at hl 1 rfl) ?_
    refine g3_12 hx hb hts hi3 hown hK hW (k := a1) ha1 (hts _ (wm 1 rfl)) dX3_isTrustedBefore_21 ?_
    refine lv_icmp_eq (tgt := 44) hx hb dX3_isTrustedBefore_24 (by decide) (fun c1 => ?_) (fun c1 => ?_)
    · have hr := br_p c1 hr
      refine lv_aload_n hx hb dX3_isTrustedBefore_44 rfl (lv_at hl 0 rfl) ?_
      refine g3_13 hx hb hts hi3 hown hK hW (k := a0) ha0 (hts _ (wm 2 rfl)) dX3_isTrustedBefore_45 ?_
      refine lv_aload_n hx hb dX3_isTrustedBefore_48 rfl (lv_at hl 0 rfl) ?_
      refine g3_14 hx hb hts hi3 hown hK hW (k := a0) ha0 (hts _ (wm 3 rfl)) dX3_isTrustedBefore_49 ?_
      refine lv_iadd hx hb dX3_isTrustedBefore_52 ?_
      obtain ⟨x3_3, ex3_3, hr⟩ := lt1_e hr
      rw [← ex3_3]
      refine lv_istore_n (lv' := [(3, .int x3_3), (0, .ref (ad a0)), (1, .ref (ad a1)), (2, .int x2)]) hx hb dX3_isTrustedBefore_53 rfl hl (by decide) rfl (fun ls hl => ?_)
      refine lv_aload_n hx hb dX3_isTrustedBefore_54 rfl (lv_at hl 2 rfl) ?_
      refine g3_13 hx hb hts hi3 hown hK hW (k := a1) ha1 (hts _ (wm 2 rfl)) dX3_isTrustedBefore_55 ?_
      refine lv_aload_n hx hb dX3_isTrustedBefore_58 rfl (lv_at hl 2 rfl) ?_
      refine g3_14 hx hb hts hi3 hown hK hW (k := a1) ha1 (hts _ (wm 3 rfl)) dX3_isTrustedBefore_59 ?_
      refine lv_iadd hx hb dX3_isTrustedBefore_62 ?_
      obtain ⟨x4_4, ex4_4, hr⟩ := lt1_e hr
      rw [← ex4_4]
      refine lv_istore (lv' := [(4, .int x4_4), (3, .int x3_3), (0, .ref (ad a0)), (1, .ref (ad a1)), (2, .int x2)]) hx hb dX3_isTrustedBefore_63 hl (by decide) rfl (fun ls hl => ?_)
      refine lv_iload_n hx hb dX3_isTrustedBefore_65 rfl (lv_at hl 1 rfl) ?_
      refine lv_iload hx hb dX3_isTrustedBefore_66 (lv_at hl 0 rfl) ?_
      refine lv_icmp_eq (tgt := 83) hx hb dX3_isTrustedBefore_68 (by decide) (fun c1 => ?_) (fun c1 => ?_)
      · have hr := br_p c1 hr
        refine lv_aload_n hx hb dX3_isTrustedBefore_83 rfl (lv_at hl 2 rfl) ?_
        refine g3_2 hx hb hts hi3 hown hK hW (k := a0) ha0 (hts _ (wm 4 rfl)) dX3_isTrustedBefore_84 ?_
        refine lv_aload_n hx hb dX3_isTrustedBefore_87 rfl (lv_at hl 3 rfl) ?_
        refine g3_2 hx hb hts hi3 hown hK hW (k := a1) ha1 (hts _ (wm 4 rfl)) dX3_isTrustedBefore_88 ?_
        refine lv_icmp_eq (tgt := 111) hx hb dX3_isTrustedBefore_91 (by decide) (fun c1 => ?_) (fun c1 => ?_)
        · have hr := br_p c1 hr
          refine lv_iload_n hx hb dX3_isTrustedBefore_111 rfl (lv_at hl 4 rfl) ?_
          obtain ⟨hz112, hr⟩ := chk_e hr
          rw [← Option.some.inj hr]
          exact xzret hx hb hr0 hlocks hW adR_rf hz112 dX3_isTrustedBefore_112
        · have hr := br_n c1 hr
          refine lv_aload_n hx hb dX3_isTrustedBefore_94 rfl (lv_at hl 2 rfl) ?_
          refine g3_2 hx hb hts hi3 hown hK hW (k := a0) ha0 (hts _ (wm 4 rfl)) dX3_isTrustedBefore_95 ?_
          refine lv_aload_n hx hb dX3_isTrustedBefore_98 rfl (lv_at hl 3 rfl) ?_
          refine g3_2 hx hb hts hi3 hown hK hW (k := a1) ha1 (hts _ (wm 4 rfl)) dX3_isTrustedBefore_99 ?_
          refine lv_icmp_le (tgt := 109) hx hb dX3_isTrustedBefore_102 (by decide) (fun c1 => ?_) (fun c1 => ?_)
          · have hr := br_p c1 hr
            refine lv_iconst (v := (0 : Int32)) hx hb dX3_isTrustedBefore_109 (by decide) ?_
            rw [← Option.some.inj hr]
            exact xzret hx hb hr0 hlocks hW adR_rf (by decide) dX3_isTrustedBefore_110
          · have hr := br_n c1 hr
            refine lv_iconst (v := (1 : Int32)) hx hb dX3_isTrustedBefore_105 (by decide) ?_
            refine lv_goto (tgt := 110) hx hb dX3_isTrustedBefore_106 (by decide) ?_
            rw [← Option.some.inj hr]
            exact xzret hx hb hr0 hlocks hW adR_rf (by decide) dX3_isTrustedBefore_110
      · have hr := br_n c1 hr
        refine lv_iload_n hx hb dX3_isTrustedBefore_71 rfl (lv_at hl 1 rfl) ?_
        refine lv_iload hx hb dX3_isTrustedBefore_72 (lv_at hl 0 rfl) ?_
        refine lv_icmp_ge (tgt := 81) hx hb dX3_isTrustedBefore_74 (by decide) (fun c1 => ?_) (fun c1 => ?_)
        · have hr := br_p c1 hr
          refine lv_iconst (v := (0 : Int32)) hx hb dX3_isTrustedBefore_81 (by decide) ?_
          rw [← Option.some.inj hr]
          exact xzret hx hb hr0 hlocks hW adR_rf (by decide) dX3_isTrustedBefore_82
        · have hr := br_n c1 hr
          refine lv_iconst (v := (1 : Int32)) hx hb dX3_isTrustedBefore_77 (by decide) ?_
          refine lv_goto (tgt := 82) hx hb dX3_isTrustedBefore_78 (by decide) ?_
          rw [← Option.some.inj hr]
          exact xzret hx hb hr0 hlocks hW adR_rf (by decide) dX3_isTrustedBefore_82
    · have hr := br_n c1 hr
      refine lv_aload_n hx hb dX3_isTrustedBefore_27 rfl (lv_at hl 0 rfl) ?_
      refine g3_12 hx hb hts hi3 hown hK hW (k := a0) ha0 (hts _ (wm 1 rfl)) dX3_isTrustedBefore_28 ?_
      refine lv_aload_n hx hb dX3_isTrustedBefore_31 rfl (lv_at hl 1 rfl) ?_
      refine g3_12 hx hb hts hi3 hown hK hW (k := a1) ha1 (hts _ (wm 1 rfl)) dX3_isTrustedBefore_32 ?_
      refine lv_icmp_ge (tgt := 42) hx hb dX3_isTrustedBefore_35 (by decide) (fun c1 => ?_) (fun c1 => ?_)
      · have hr := br_p c1 hr
        refine lv_iconst (v := (0 : Int32)) hx hb dX3_isTrustedBefore_42 (by decide) ?_
        rw [← Option.some.inj hr]
        exact xzret hx hb hr0 hlocks hW adR_rf (by decide) dX3_isTrustedBefore_43
      · have hr := br_n c1 hr
        refine lv_iconst (v := (1 : Int32)) hx hb dX3_isTrustedBefore_38 (by decide) ?_
        refine lv_goto (tgt := 43) hx hb dX3_isTrustedBefore_39 (by decide) ?_
        rw [← Option.some.inj hr]
        exact xzret hx hb hr0 hlocks hW adR_rf (by decide) dX3_isTrustedBefore_43
  · have hr := br_n c1 hr
    refine lv_aload_n hx hb dX3_isTrustedBefore_11 rfl (lv_at hl 1 rfl) ?_
    obtain ⟨r_5, hc12, hr⟩ := ob1_e hr
    refine xk_i (va_runV (As := []) (rest := []) ⟨hx, hb, hml, hown, hts⟩ (c_X3_fails l D cA ad M a1 ha1 hc12) (cwV 0 hts gX3_isTrustedBefore_X3_fails rfl rfl rfl (by decide +kernel) ⟨Nat.le_of_ble_eq_true rfl, Nat.le_of_ble_eq_true rfl⟩) (xpreV hK hW (k := a1) ha1 (by decide) rfl) rfl rfl hl.1 rfl (lv_room (Nat.le_of_ble_eq_true rfl)) dX3_isTrustedBefore_12 ⟨Nat.le_of_ble_eq_true rfl, Nat.le_of_ble_eq_true rfl⟩) hW (fun H locs hW => ?_)
    obtain ⟨hz15, hr⟩ := chk_e hr
    rw [← Option.some.inj hr]
    exact xzret hx hb hr0 hlocks hW adR_rf hz15 dX3_isTrustedBefore_15

set_option maxHeartbeats 4000000 in
set_option maxRecDepth 100000 in
theorem c_X4_find (l : Launch) (D : va_G) (cA : Nat → ClassId) (ad : Nat → Nat) (M : Mm) (x1 : Int32) {r : Int32} (hr : f_X4_find x1 M = some r) : Met l yX4_find wsX4_find ({ frames := 0, cells := 0, slots := 0, locals := 0 }) (PcX D true cA ad M [.ref (ad 10), .int x1]) (QiX false D true cA ad r M) 0 0 (AX true ad) := by
  refine Met.ofW (cc := cX4_find) (maxL := 3) (ret := (some .int)) (by decide) rfl ?_
  intro p e s m args below meth c s₁ B hml hv
  obtain ⟨hav, hP0, hK⟩ := hv
  have hx := B.exec
  have hb := B.bytes
  have hr0 := B.returns
  have hts := atoms_spec (ws := wsX4_find) B.pre
  have hown : s.vm.findClass RX4 = some m.cls := findClass_of_methodNamed B.named
  have hlocks := B.notSynchronized
  have hW := xstart hP0
  have hi4 : ∀ w ∈ wsX40, w ∈ wsX4_find := fun w h => List.mem_cons_of_mem _ (List.mem_append_right _ h)
  have hl := lv_entry ([.ref (ad 10), .int x1]) (n := 3) (Nat.le_of_ble_eq_true rfl)
  have hef := lg_entry_eq m ([.ref (ad 10), .int x1]) 3
  rw [← hav] at hef
  rw [hef]
  clear hef
  generalize (lg_sl ([.ref (ad 10), .int x1]) ++ List.replicate (3 - (lg_sl ([.ref (ad 10), .int x1])).length) Slot.unset).toArray = ls at hl ⊢
  have hl : lv_has ls 3 [(0, .ref (ad 10)), (1, .int x1)] := hl
  clear hP0
  unfold f_X4_find at hr
  refine lv_iconst (v := (0 : Int32)) hx hb dX4_find_0 (by decide) ?_
  refine lv_istore_n (lv' := [(2, .int (0 : Int32)), (0, .ref (ad 10)), (1, .int x1)]) hx hb dX4_find_1 rfl hl (by decide) rfl (fun ls hl => ?_)
  have hL2_1 : ∀ (n : Nat) (x2_1 : Int32) (H : Heap) (locs : List Loc) (ls : Array Slot), Xw D true cA ad M (AX true ad) s.heap H locs → lv_has ls 3 [(0, .ref (ad 10)), (1, .int x1), (2, .int x2_1)] → f_X4_find_L2 M x1 n x2_1 = some r → W p l e (headSpec wsX4_find { frames := 0, cells := 0, slots := 0, locals := 0 }).room s m args below meth c H locs 0 0 (MQ below (QiX false D true cA ad r M) args s 0 0 (AX true ad)) (F0 m 2 ls []) := by
    intro n
    induction n with
    | zero =>
      intro x2_1 H locs ls hW hl hr
      exact absurd hr (by simp [f_X4_find_L2])
    | succ n ih =>
      intro x2_1 H locs ls hW hl hr
      rw [f_X4_find_L2] at hr
      refine lv_iload_n hx hb dX4_find_2 rfl (lv_at hl 2 rfl) ?_
      refine lv_bipush (v := (6 : Int32)) hx hb dX4_find_3 (by decide) ?_
      refine lv_icmp_ge (tgt := 34) hx hb dX4_find_5 (by decide) (fun c1 => ?_) (fun c1 => ?_)
      · have hr := br_p c1 hr
        refine lv_iconst (v := (-1 : Int32)) hx hb dX4_find_34 (by decide) ?_
        rw [← Option.some.inj hr]
        exact xiret hx hb hr0 hlocks hW adR_rf dX4_find_35
      · have hr := br_n c1 hr
        refine lv_iload_n hx hb dX4_find_8 rfl (lv_at hl 2 rfl) ?_
        refine lv_aload_n hx hb dX4_find_9 rfl (lv_at hl 0 rfl) ?_
        refine g4_2 hx hb hts hi4 hown hK hW (k := 10) rfl (hts _ (wm 1 rfl)) dX4_find_10 ?_
        refine lv_icmp_ge (tgt := 34) hx hb dX4_find_13 (by decide) (fun c1 => ?_) (fun c1 => ?_)
        · have hr := br_p c1 hr
          refine lv_iconst (v := (-1 : Int32)) hx hb dX4_find_34 (by decide) ?_
          rw [← Option.some.inj hr]
          exact xiret hx hb hr0 hlocks hW adR_rf dX4_find_35
        · have hr := br_n c1 hr
          refine lv_aload_n hx hb dX4_find_16 rfl (lv_at hl 0 rfl) ?_
          refine g4_0 hx hb hts hi4 hown hK hW (k := 10) rfl (hts _ (wm 2 rfl)) dX4_find_17 ?_
          refine lv_iload_n hx hb dX4_find_20 rfl (lv_at hl 2 rfl) ?_
          obtain ⟨hn21, hr⟩ := chk_e hr
          refine xiald hx hb hK hW (k := 11) (t := 22) rfl (by decide) (by decide) rfl (n := 6) hn21 (jx := (ix x2_1)) rfl dX4_find_21 ?_
          refine lv_iload_n hx hb dX4_find_22 rfl (lv_at hl 1 rfl) ?_
          refine lv_icmp_ne (tgt := 28) hx hb dX4_find_23 (by decide) (fun c1 => ?_) (fun c1 => ?_)
          · have hr := br_n c1 hr
            obtain ⟨x2_2, ex2_2, hr⟩ := lt1_e hr
            refine lv_iinc (v := x2_2) (lv' := [(2, .int x2_2), (0, .ref (ad 10)), (1, .int x1)]) hx hb dX4_find_28 hl (k := 2) rfl (by rw [ex2_2]; rfl) (by decide) rfl (fun ls hl => ?_)
            refine lv_goto (tgt := 2) hx hb dX4_find_31 (by decide) ?_
            exact ih x2_2 _ _ _ hW (lv_sub hl [1, 2, 0] rfl) hr
          · have hr := br_p c1 hr
            refine lv_iload_n hx hb dX4_find_26 rfl (lv_at hl 2 rfl) ?_
            rw [← Option.some.inj hr]
            exact xiret hx hb hr0 hlocks hW adR_rf dX4_find_27
  exact hL2_1 1000 (0 : Int32) _ _ _ hW (lv_sub hl [1, 2, 0] rfl) hr

set_option maxHeartbeats 4000000 in
set_option maxRecDepth 100000 in
theorem c_X4_put (l : Launch) (D : va_G) (cA : Nat → ClassId) (ad : Nat → Nat) (M : Mm) (x1 : Int32) (x2 : Int32) {M' : Mm} (hr : f_X4_put x1 x2 M = some M') : Met l yX4_put wsX4_put ({ frames := 1, cells := 0, slots := 0, locals := 22 }) (PcX D true cA ad M [.ref (ad 10), .int x1, .int x2]) (QvX false D true cA ad M') 0 0 (AX true ad) := by
  refine Met.ofW (cc := cX4_put) (maxL := 6) (ret := none) (by decide) rfl ?_
  intro p e s m args below meth c s₁ B hml hv
  obtain ⟨hav, hP0, hK⟩ := hv
  have hx := B.exec
  have hb := B.bytes
  have hr0 := B.returns
  have hts := atoms_spec (ws := wsX4_put) B.pre
  have hown : s.vm.findClass RX4 = some m.cls := findClass_of_methodNamed B.named
  have hlocks := B.notSynchronized
  have hW := xstart hP0
  have hi4 : ∀ w ∈ wsX40, w ∈ wsX4_put := fun w h => List.mem_cons_of_mem _ (List.mem_append_right _ h)
  have hl := lv_entry ([.ref (ad 10), .int x1, .int x2]) (n := 6) (Nat.le_of_ble_eq_true rfl)
  have hef := lg_entry_eq m ([.ref (ad 10), .int x1, .int x2]) 6
  rw [← hav] at hef
  rw [hef]
  clear hef
  generalize (lg_sl ([.ref (ad 10), .int x1, .int x2]) ++ List.replicate (6 - (lg_sl ([.ref (ad 10), .int x1, .int x2])).length) Slot.unset).toArray = ls at hl ⊢
  have hl : lv_has ls 6 [(0, .ref (ad 10)), (1, .int x1), (2, .int x2)] := hl
  clear hP0
  unfold f_X4_put at hr
  refine lv_aload_n hx hb dX4_put_0 rfl (lv_at hl 0 rfl) ?_
  refine lv_iload_n hx hb dX4_put_1 rfl (lv_at hl 1 rfl) ?_
  obtain ⟨r_1, hc2, hr⟩ := ob1_e hr
  refine xk_i (va_runV (As := [.int x1]) (rest := []) ⟨hx, hb, hml, hown, hts⟩ (c_X4_find l D cA ad M x1 hc2) (cwV 1 hts gX4_put_X4_find rfl rfl rfl (by decide +kernel) ⟨Nat.le_of_ble_eq_true rfl, Nat.le_of_ble_eq_true rfl⟩) (xpreV hK hW (k := 10) rfl (by decide) rfl) rfl rfl hl.1 rfl (lv_room (Nat.le_of_ble_eq_true rfl)) dX4_put_2 ⟨Nat.le_of_ble_eq_true rfl, Nat.le_of_ble_eq_true rfl⟩) hW (fun H locs hW => ?_)
  refine lv_istore_n (lv' := [(3, .int r_1), (0, .ref (ad 10)), (1, .int x1), (2, .int x2)]) hx hb dX4_put_5 rfl hl (by decide) rfl (fun ls hl => ?_)
  refine lv_iload_n hx hb dX4_put_6 rfl (lv_at hl 0 rfl) ?_
  refine lv_if_lt (tgt := 24) hx hb dX4_put_7 (by decide) (fun c1 => ?_) (fun c1 => ?_)
  · have hr := br_p c1 hr
    refine lv_aload_n hx hb dX4_put_24 rfl (lv_at hl 1 rfl) ?_
    refine g4_2 hx hb hts hi4 hown hK hW (k := 10) rfl (hts _ (wm 2 rfl)) dX4_put_25 ?_
    refine lv_if_lt (tgt := 40) hx hb dX4_put_28 (by decide) (fun c1 => ?_) (fun c1 => ?_)
    · have hr := br_p c1 hr
      rw [← Option.some.inj hr]
      exact xvret hx hb hr0 hlocks hW adR_rf dX4_put_40
    · have hr := br_n c1 hr
      refine lv_aload_n hx hb dX4_put_31 rfl (lv_at hl 1 rfl) ?_
      refine g4_2 hx hb hts hi4 hown hK hW (k := 10) rfl (hts _ (wm 2 rfl)) dX4_put_32 ?_
      refine lv_bipush (v := (6 : Int32)) hx hb dX4_put_35 (by decide) ?_
      refine lv_icmp_lt (tgt := 41) hx hb dX4_put_37 (by decide) (fun c1 => ?_) (fun c1 => ?_)
      · have hr := br_p c1 hr
        refine lv_aload_n hx hb dX4_put_41 rfl (lv_at hl 1 rfl) ?_
        refine g4_2 hx hb hts hi4 hown hK hW (k := 10) rfl (hts _ (wm 2 rfl)) dX4_put_42 ?_
        obtain ⟨x4_2, ex4_2, hr⟩ := lt1_e hr
        rw [← ex4_2]
        refine lv_istore (lv' := [(4, .int x4_2), (3, .int r_1), (0, .ref (ad 10)), (1, .int x1), (2, .int x2)]) hx hb dX4_put_45 hl (by decide) rfl (fun ls hl => ?_)
        refine lv_aload_n hx hb dX4_put_47 rfl (lv_at hl 2 rfl) ?_
        refine g4_2 hx hb hts hi4 hown hK hW (k := 10) rfl (hts _ (wm 2 rfl)) dX4_put_48 ?_
        obtain ⟨x5_3, ex5_3, hr⟩ := lt1_e hr
        rw [← ex5_3]
        refine lv_istore (lv' := [(5, .int x5_3), (4, .int x4_2), (3, .int r_1), (0, .ref (ad 10)), (1, .int x1), (2, .int x2)]) hx hb dX4_put_51 hl (by decide) rfl (fun ls hl => ?_)
        have hL53_1 : ∀ (n : Nat) (x4_4 : Int32) (x5_5 : Int32) (M_6 : Mm) (H : Heap) (locs : List Loc) (ls : Array Slot) (x4_7 : Int32) (M_8 : Mm), Xw D true cA ad M_6 (AX true ad) s.heap H locs → lv_has ls 6 [(0, .ref (ad 10)), (1, .int x1), (2, .int x2), (4, .int x4_4), (5, .int x5_5)] → f_X4_put_L53 x1 n x4_4 x5_5 M_6 = some (x4_7, M_8) → (∀ (H : Heap) (locs : List Loc) (ls : Array Slot), Xw D true cA ad M_8 (AX true ad) s.heap H locs → lv_has ls 6 [(0, .ref (ad 10)), (1, .int x1), (2, .int x2), (4, .int x4_7)] → W p l e (headSpec wsX4_put { frames := 1, cells := 0, slots := 0, locals := 22 }).room s m args below meth c H locs 0 0 (MQ below (QvX false D true cA ad M') args s 0 0 (AX true ad)) (F0 m 115 ls [])) → W p l e (headSpec wsX4_put { frames := 1, cells := 0, slots := 0, locals := 22 }).room s m args below meth c H locs 0 0 (MQ below (QvX false D true cA ad M') args s 0 0 (AX true ad)) (F0 m 53 ls []) := by
          intro n
          induction n with
          | zero =>
            intro x4_4 x5_5 M_6 H locs ls x4_7 M_8 hW hl hr hk
            exact absurd hr (by simp [f_X4_put_L53])
          | succ n ih =>
            intro x4_4 x5_5 M_6 H locs ls x4_7 M_8 hW hl hr hk
            rw [f_X4_put_L53] at hr
            refine lv_iload hx hb dX4_put_53 (lv_at hl 4 rfl) ?_
            refine lv_if_le (tgt := 115) hx hb dX4_put_55 (by decide) (fun c1 => ?_) (fun c1 => ?_)
            · have hr := br_p c1 hr
              obtain ⟨e1, e2⟩ := Prod.mk.inj (Option.some.inj hr)
              subst e1
              subst e2
              exact hk _ _ _ hW (lv_sub hl [0, 1, 2, 3] rfl)
            · have hr := br_n c1 hr
              refine lv_aload_n hx hb dX4_put_58 rfl (lv_at hl 0 rfl) ?_
              refine g4_0 hx hb hts hi4 hown hK hW (k := 10) rfl (hts _ (wm 3 rfl)) dX4_put_59 ?_
              refine lv_iload hx hb dX4_put_62 (lv_at hl 4 rfl) ?_
              refine lv_iconst (v := (1 : Int32)) hx hb dX4_put_64 (by decide) ?_
              refine lv_isub hx hb dX4_put_65 ?_
              obtain ⟨hn66, hr⟩ := chk_e hr
              refine xiald hx hb hK hW (k := 11) (t := 22) rfl (by decide) (by decide) rfl (n := 6) hn66 (jx := (ix (x5_5 - (1 : Int32)))) rfl dX4_put_66 ?_
              refine lv_iload_n hx hb dX4_put_67 rfl (lv_at hl 1 rfl) ?_
              refine lv_icmp_le (tgt := 115) hx hb dX4_put_68 (by decide) (fun c1 => ?_) (fun c1 => ?_)
              · have hr := br_p c1 hr
                obtain ⟨e1, e2⟩ := Prod.mk.inj (Option.some.inj hr)
                subst e1
                subst e2
                exact hk _ _ _ hW (lv_sub hl [0, 1, 2, 3] rfl)
              · have hr := br_n c1 hr
                refine lv_aload_n hx hb dX4_put_71 rfl (lv_at hl 0 rfl) ?_
                refine g4_0 hx hb hts hi4 hown hK hW (k := 10) rfl (hts _ (wm 3 rfl)) dX4_put_72 ?_
                refine lv_iload hx hb dX4_put_75 (lv_at hl 4 rfl) ?_
                refine lv_aload_n hx hb dX4_put_77 rfl (lv_at hl 0 rfl) ?_
                refine g4_0 hx hb hts hi4 hown hK hW (k := 10) rfl (hts _ (wm 3 rfl)) dX4_put_78 ?_
                refine lv_iload hx hb dX4_put_81 (lv_at hl 4 rfl) ?_
                refine lv_iconst (v := (1 : Int32)) hx hb dX4_put_83 (by decide) ?_
                refine lv_isub hx hb dX4_put_84 ?_
                obtain ⟨hn85, hr⟩ := chk_e hr
                refine xiald hx hb hK hW (k := 11) (t := 22) rfl (by decide) (by decide) rfl (n := 6) hn85 (jx := (ix (x5_5 - (1 : Int32)))) rfl dX4_put_85 ?_
                obtain ⟨hn86, hr⟩ := chk_e hr
                obtain ⟨M_9, eM_9, hr⟩ := lt1_e hr
                refine xiast hx hb hK hW (k := 11) (t := 22) rfl (by decide) (by decide) rfl (n := 6) hn86 (jx := (ix x5_5)) rfl dX4_put_86 (fun H locs hW => ?_)
                rw [← eM_9] at hW
                refine lv_aload_n hx hb dX4_put_87 rfl (lv_at hl 0 rfl) ?_
                refine g4_1 hx hb hts hi4 hown hK hW (k := 10) rfl (hts _ (wm 1 rfl)) dX4_put_88 ?_
                refine lv_iload hx hb dX4_put_91 (lv_at hl 4 rfl) ?_
                refine lv_aload_n hx hb dX4_put_93 rfl (lv_at hl 0 rfl) ?_
                refine g4_1 hx hb hts hi4 hown hK hW (k := 10) rfl (hts _ (wm 1 rfl)) dX4_put_94 ?_
                refine lv_iload hx hb dX4_put_97 (lv_at hl 4 rfl) ?_
                refine lv_iconst (v := (1 : Int32)) hx hb dX4_put_99 (by decide) ?_
                refine lv_isub hx hb dX4_put_100 ?_
                obtain ⟨hn101, hr⟩ := chk_e hr
                refine xiald hx hb hK hW (k := 12) (t := 22) rfl (by decide) (by decide) rfl (n := 6) hn101 (jx := (ix (x5_5 - (1 : Int32)))) rfl dX4_put_101 ?_
                obtain ⟨hn102, hr⟩ := chk_e hr
                obtain ⟨M_10, eM_10, hr⟩ := lt1_e hr
                refine xiast hx hb hK hW (k := 12) (t := 22) rfl (by decide) (by decide) rfl (n := 6) hn102 (jx := (ix x5_5)) rfl dX4_put_102 (fun H locs hW => ?_)
                rw [← eM_10] at hW
                refine lv_iload hx hb dX4_put_103 (lv_at hl 4 rfl) ?_
                refine lv_iconst (v := (1 : Int32)) hx hb dX4_put_105 (by decide) ?_
                refine lv_isub hx hb dX4_put_106 ?_
                obtain ⟨x4_11, ex4_11, hr⟩ := lt1_e hr
                rw [← ex4_11]
                refine lv_istore (lv' := [(4, .int x4_11), (0, .ref (ad 10)), (1, .int x1), (2, .int x2), (5, .int x5_5)]) hx hb dX4_put_107 hl (by decide) rfl (fun ls hl => ?_)
                obtain ⟨x5_12, ex5_12, hr⟩ := lt1_e hr
                refine lv_iinc (v := x5_12) (lv' := [(5, .int x5_12), (4, .int x4_11), (0, .ref (ad 10)), (1, .int x1), (2, .int x2)]) hx hb dX4_put_109 hl (k := 4) rfl (by rw [ex5_12]; rfl) (by decide) rfl (fun ls hl => ?_)
                refine lv_goto (tgt := 53) hx hb dX4_put_112 (by decide) ?_
                exact ih x4_11 x5_12 M_10 _ _ _ _ _ hW (lv_sub hl [2, 3, 4, 1, 0] rfl) hr hk
        obtain ⟨x4_7, M_8, hr, hr3⟩ := ob2_e hr
        refine hL53_1 1000 x4_2 x5_3 M _ _ _ x4_7 M_8 hW (lv_sub hl [3, 4, 5, 1, 0] rfl) hr (fun H locs ls hW hl => ?_)
        clear hr
        have hr := hr3
        refine lv_aload_n hx hb dX4_put_115 rfl (lv_at hl 0 rfl) ?_
        refine g4_0 hx hb hts hi4 hown hK hW (k := 10) rfl (hts _ (wm 3 rfl)) dX4_put_116 ?_
        refine lv_iload hx hb dX4_put_119 (lv_at hl 3 rfl) ?_
        refine lv_iload_n hx hb dX4_put_121 rfl (lv_at hl 1 rfl) ?_
        obtain ⟨hn122, hr⟩ := chk_e hr
        obtain ⟨M_13, eM_13, hr⟩ := lt1_e hr
        refine xiast hx hb hK hW (k := 11) (t := 22) rfl (by decide) (by decide) rfl (n := 6) hn122 (jx := (ix x4_7)) rfl dX4_put_122 (fun H locs hW => ?_)
        rw [← eM_13] at hW
        refine lv_aload_n hx hb dX4_put_123 rfl (lv_at hl 0 rfl) ?_
        refine g4_1 hx hb hts hi4 hown hK hW (k := 10) rfl (hts _ (wm 1 rfl)) dX4_put_124 ?_
        refine lv_iload hx hb dX4_put_127 (lv_at hl 3 rfl) ?_
        refine lv_iload_n hx hb dX4_put_129 rfl (lv_at hl 2 rfl) ?_
        obtain ⟨hn130, hr⟩ := chk_e hr
        obtain ⟨M_14, eM_14, hr⟩ := lt1_e hr
        refine xiast hx hb hK hW (k := 12) (t := 22) rfl (by decide) (by decide) rfl (n := 6) hn130 (jx := (ix x4_7)) rfl dX4_put_130 (fun H locs hW => ?_)
        rw [← eM_14] at hW
        refine lv_aload_n hx hb dX4_put_131 rfl (lv_at hl 0 rfl) ?_
        refine lv_dup hx hb dX4_put_132 rfl ?_
        refine g4_2 hx hb hts hi4 hown hK hW (k := 10) rfl (hts _ (wm 2 rfl)) dX4_put_133 ?_
        refine lv_iconst (v := (1 : Int32)) hx hb dX4_put_136 (by decide) ?_
        refine lv_iadd hx hb dX4_put_137 ?_
        obtain ⟨M_15, eM_15, hr⟩ := lt1_e hr
        refine p4_2 hx hb hts hi4 hown hK hW (k := 10) rfl (hts _ (wm 2 rfl)) dX4_put_138 (fun H locs hW => ?_)
        rw [← eM_15] at hW
        rw [← Option.some.inj hr]
        exact xvret hx hb hr0 hlocks hW adR_rf dX4_put_141
      · have hr := br_n c1 hr
        rw [← Option.some.inj hr]
        exact xvret hx hb hr0 hlocks hW adR_rf dX4_put_40
  · have hr := br_n c1 hr
    refine lv_iload_n hx hb dX4_put_10 rfl (lv_at hl 0 rfl) ?_
    refine lv_bipush (v := (6 : Int32)) hx hb dX4_put_11 (by decide) ?_
    refine lv_icmp_ge (tgt := 24) hx hb dX4_put_13 (by decide) (fun c1 => ?_) (fun c1 => ?_)
    · have hr := br_p c1 hr
      refine lv_aload_n hx hb dX4_put_24 rfl (lv_at hl 1 rfl) ?_
      refine g4_2 hx hb hts hi4 hown hK hW (k := 10) rfl (hts _ (wm 2 rfl)) dX4_put_25 ?_
      refine lv_if_lt (tgt := 40) hx hb dX4_put_28 (by decide) (fun c1 => ?_) (fun c1 => ?_)
      · have hr := br_p c1 hr
        rw [← Option.some.inj hr]
        exact xvret hx hb hr0 hlocks hW adR_rf dX4_put_40
      · have hr := br_n c1 hr
        refine lv_aload_n hx hb dX4_put_31 rfl (lv_at hl 1 rfl) ?_
        refine g4_2 hx hb hts hi4 hown hK hW (k := 10) rfl (hts _ (wm 2 rfl)) dX4_put_32 ?_
        refine lv_bipush (v := (6 : Int32)) hx hb dX4_put_35 (by decide) ?_
        refine lv_icmp_lt (tgt := 41) hx hb dX4_put_37 (by decide) (fun c1 => ?_) (fun c1 => ?_)
        · have hr := br_p c1 hr
          refine lv_aload_n hx hb dX4_put_41 rfl (lv_at hl 1 rfl) ?_
          refine g4_2 hx hb hts hi4 hown hK hW (k := 10) rfl (hts _ (wm 2 rfl)) dX4_put_42 ?_
          obtain ⟨x4_16, ex4_16, hr⟩ := lt1_e hr
          rw [← ex4_16]
          refine lv_istore (lv' := [(4, .int x4_16), (3, .int r_1), (0, .ref (ad 10)), (1, .int x1), (2, .int x2)]) hx hb dX4_put_45 hl (by decide) rfl (fun ls hl => ?_)
          refine lv_aload_n hx hb dX4_put_47 rfl (lv_at hl 2 rfl) ?_
          refine g4_2 hx hb hts hi4 hown hK hW (k := 10) rfl (hts _ (wm 2 rfl)) dX4_put_48 ?_
          obtain ⟨x5_17, ex5_17, hr⟩ := lt1_e hr
          rw [← ex5_17]
          refine lv_istore (lv' := [(5, .int x5_17), (4, .int x4_16), (3, .int r_1), (0, .ref (ad 10)), (1, .int x1), (2, .int x2)]) hx hb dX4_put_51 hl (by decide) rfl (fun ls hl => ?_)
          have hL53_2 : ∀ (n : Nat) (x4_18 : Int32) (x5_19 : Int32) (M_20 : Mm) (H : Heap) (locs : List Loc) (ls : Array Slot) (x4_21 : Int32) (M_22 : Mm), Xw D true cA ad M_20 (AX true ad) s.heap H locs → lv_has ls 6 [(0, .ref (ad 10)), (1, .int x1), (2, .int x2), (4, .int x4_18), (5, .int x5_19)] → f_X4_put_L53_2 x1 n x4_18 x5_19 M_20 = some (x4_21, M_22) → (∀ (H : Heap) (locs : List Loc) (ls : Array Slot), Xw D true cA ad M_22 (AX true ad) s.heap H locs → lv_has ls 6 [(0, .ref (ad 10)), (1, .int x1), (2, .int x2), (4, .int x4_21)] → W p l e (headSpec wsX4_put { frames := 1, cells := 0, slots := 0, locals := 22 }).room s m args below meth c H locs 0 0 (MQ below (QvX false D true cA ad M') args s 0 0 (AX true ad)) (F0 m 115 ls [])) → W p l e (headSpec wsX4_put { frames := 1, cells := 0, slots := 0, locals := 22 }).room s m args below meth c H locs 0 0 (MQ below (QvX false D true cA ad M') args s 0 0 (AX true ad)) (F0 m 53 ls []) := by
            intro n
            induction n with
            | zero =>
              intro x4_18 x5_19 M_20 H locs ls x4_21 M_22 hW hl hr hk
              exact absurd hr (by simp [f_X4_put_L53_2])
            | succ n ih =>
              intro x4_18 x5_19 M_20 H locs ls x4_21 M_22 hW hl hr hk
              rw [f_X4_put_L53_2] at hr
              refine lv_iload hx hb dX4_put_53 (lv_at hl 4 rfl) ?_
              refine lv_if_le (tgt := 115) hx hb dX4_put_55 (by decide) (fun c1 => ?_) (fun c1 => ?_)
              · have hr := br_p c1 hr
                obtain ⟨e1, e2⟩ := Prod.mk.inj (Option.some.inj hr)
                subst e1
                subst e2
                exact hk _ _ _ hW (lv_sub hl [0, 1, 2, 3] rfl)
              · have hr := br_n c1 hr
                refine lv_aload_n hx hb dX4_put_58 rfl (lv_at hl 0 rfl) ?_
                refine g4_0 hx hb hts hi4 hown hK hW (k := 10) rfl (hts _ (wm 3 rfl)) dX4_put_59 ?_
                refine lv_iload hx hb dX4_put_62 (lv_at hl 4 rfl) ?_
                refine lv_iconst (v := (1 : Int32)) hx hb dX4_put_64 (by decide) ?_
                refine lv_isub hx hb dX4_put_65 ?_
                obtain ⟨hn66, hr⟩ := chk_e hr
                refine xiald hx hb hK hW (k := 11) (t := 22) rfl (by decide) (by decide) rfl (n := 6) hn66 (jx := (ix (x5_19 - (1 : Int32)))) rfl dX4_put_66 ?_
                refine lv_iload_n hx hb dX4_put_67 rfl (lv_at hl 1 rfl) ?_
                refine lv_icmp_le (tgt := 115) hx hb dX4_put_68 (by decide) (fun c1 => ?_) (fun c1 => ?_)
                · have hr := br_p c1 hr
                  obtain ⟨e1, e2⟩ := Prod.mk.inj (Option.some.inj hr)
                  subst e1
                  subst e2
                  exact hk _ _ _ hW (lv_sub hl [0, 1, 2, 3] rfl)
                · have hr := br_n c1 hr
                  refine lv_aload_n hx hb dX4_put_71 rfl (lv_at hl 0 rfl) ?_
                  refine g4_0 hx hb hts hi4 hown hK hW (k := 10) rfl (hts _ (wm 3 rfl)) dX4_put_72 ?_
                  refine lv_iload hx hb dX4_put_75 (lv_at hl 4 rfl) ?_
                  refine lv_aload_n hx hb dX4_put_77 rfl (lv_at hl 0 rfl) ?_
                  refine g4_0 hx hb hts hi4 hown hK hW (k := 10) rfl (hts _ (wm 3 rfl)) dX4_put_78 ?_
                  refine lv_iload hx hb dX4_put_81 (lv_at hl 4 rfl) ?_
                  refine lv_iconst (v := (1 : Int32)) hx hb dX4_put_83 (by decide) ?_
                  refine lv_isub hx hb dX4_put_84 ?_
                  obtain ⟨hn85, hr⟩ := chk_e hr
                  refine xiald hx hb hK hW (k := 11) (t := 22) rfl (by decide) (by decide) rfl (n := 6) hn85 (jx := (ix (x5_19 - (1 : Int32)))) rfl dX4_put_85 ?_
                  obtain ⟨hn86, hr⟩ := chk_e hr
                  obtain ⟨M_23, eM_23, hr⟩ := lt1_e hr
                  refine xiast hx hb hK hW (k := 11) (t := 22) rfl (by decide) (by decide) rfl (n := 6) hn86 (jx := (ix x5_19)) rfl dX4_put_86 (fun H locs hW => ?_)
                  rw [← eM_23] at hW
                  refine lv_aload_n hx hb dX4_put_87 rfl (lv_at hl 0 rfl) ?_
                  refine g4_1 hx hb hts hi4 hown hK hW (k := 10) rfl (hts _ (wm 1 rfl)) dX4_put_88 ?_
                  refine lv_iload hx hb dX4_put_91 (lv_at hl 4 rfl) ?_
                  refine lv_aload_n hx hb dX4_put_93 rfl (lv_at hl 0 rfl) ?_
                  refine g4_1 hx hb hts hi4 hown hK hW (k := 10) rfl (hts _ (wm 1 rfl)) dX4_put_94 ?_
                  refine lv_iload hx hb dX4_put_97 (lv_at hl 4 rfl) ?_
                  refine lv_iconst (v := (1 : Int32)) hx hb dX4_put_99 (by decide) ?_
                  refine lv_isub hx hb dX4_put_100 ?_
                  obtain ⟨hn101, hr⟩ := chk_e hr
                  refine xiald hx hb hK hW (k := 12) (t := 22) rfl (by decide) (by decide) rfl (n := 6) hn101 (jx := (ix (x5_19 - (1 : Int32)))) rfl dX4_put_101 ?_
                  obtain ⟨hn102, hr⟩ := chk_e hr
                  obtain ⟨M_24, eM_24, hr⟩ := lt1_e hr
                  refine xiast hx hb hK hW (k := 12) (t := 22) rfl (by decide) (by decide) rfl (n := 6) hn102 (jx := (ix x5_19)) rfl dX4_put_102 (fun H locs hW => ?_)
                  rw [← eM_24] at hW
                  refine lv_iload hx hb dX4_put_103 (lv_at hl 4 rfl) ?_
                  refine lv_iconst (v := (1 : Int32)) hx hb dX4_put_105 (by decide) ?_
                  refine lv_isub hx hb dX4_put_106 ?_
                  obtain ⟨x4_25, ex4_25, hr⟩ := lt1_e hr
                  rw [← ex4_25]
                  refine lv_istore (lv' := [(4, .int x4_25), (0, .ref (ad 10)), (1, .int x1), (2, .int x2), (5, .int x5_19)]) hx hb dX4_put_107 hl (by decide) rfl (fun ls hl => ?_)
                  obtain ⟨x5_26, ex5_26, hr⟩ := lt1_e hr
                  refine lv_iinc (v := x5_26) (lv' := [(5, .int x5_26), (4, .int x4_25), (0, .ref (ad 10)), (1, .int x1), (2, .int x2)]) hx hb dX4_put_109 hl (k := 4) rfl (by rw [ex5_26]; rfl) (by decide) rfl (fun ls hl => ?_)
                  refine lv_goto (tgt := 53) hx hb dX4_put_112 (by decide) ?_
                  exact ih x4_25 x5_26 M_24 _ _ _ _ _ hW (lv_sub hl [2, 3, 4, 1, 0] rfl) hr hk
          obtain ⟨x4_21, M_22, hr, hr3⟩ := ob2_e hr
          refine hL53_2 1000 x4_16 x5_17 M _ _ _ x4_21 M_22 hW (lv_sub hl [3, 4, 5, 1, 0] rfl) hr (fun H locs ls hW hl => ?_)
          clear hr
          have hr := hr3
          refine lv_aload_n hx hb dX4_put_115 rfl (lv_at hl 0 rfl) ?_
          refine g4_0 hx hb hts hi4 hown hK hW (k := 10) rfl (hts _ (wm 3 rfl)) dX4_put_116 ?_
          refine lv_iload hx hb dX4_put_119 (lv_at hl 3 rfl) ?_
          refine lv_iload_n hx hb dX4_put_121 rfl (lv_at hl 1 rfl) ?_
          obtain ⟨hn122, hr⟩ := chk_e hr
          obtain ⟨M_27, eM_27, hr⟩ := lt1_e hr
          refine xiast hx hb hK hW (k := 11) (t := 22) rfl (by decide) (by decide) rfl (n := 6) hn122 (jx := (ix x4_21)) rfl dX4_put_122 (fun H locs hW => ?_)
          rw [← eM_27] at hW
          refine lv_aload_n hx hb dX4_put_123 rfl (lv_at hl 0 rfl) ?_
          refine g4_1 hx hb hts hi4 hown hK hW (k := 10) rfl (hts _ (wm 1 rfl)) dX4_put_124 ?_
          refine lv_iload hx hb dX4_put_127 (lv_at hl 3 rfl) ?_
          refine lv_iload_n hx hb dX4_put_129 rfl (lv_at hl 2 rfl) ?_
          obtain ⟨hn130, hr⟩ := chk_e hr
          obtain ⟨M_28, eM_28, hr⟩ := lt1_e hr
          refine xiast hx hb hK hW (k := 12) (t := 22) rfl (by decide) (by decide) rfl (n := 6) hn130 (jx := (ix x4_21)) rfl dX4_put_130 (fun H locs hW => ?_)
          rw [← eM_28] at hW
          refine lv_aload_n hx hb dX4_put_131 rfl (lv_at hl 0 rfl) ?_
          refine lv_dup hx hb dX4_put_132 rfl ?_
          refine g4_2 hx hb hts hi4 hown hK hW (k := 10) rfl (hts _ (wm 2 rfl)) dX4_put_133 ?_
          refine lv_iconst (v := (1 : Int32)) hx hb dX4_put_136 (by decide) ?_
          refine lv_iadd hx hb dX4_put_137 ?_
          obtain ⟨M_29, eM_29, hr⟩ := lt1_e hr
          refine p4_2 hx hb hts hi4 hown hK hW (k := 10) rfl (hts _ (wm 2 rfl)) dX4_put_138 (fun H locs hW => ?_)
          rw [← eM_29] at hW
          rw [← Option.some.inj hr]
          exact xvret hx hb hr0 hlocks hW adR_rf dX4_put_141
        · have hr := br_n c1 hr
          rw [← Option.some.inj hr]
          exact xvret hx hb hr0 hlocks hW adR_rf dX4_put_40
    · have hr := br_n c1 hr
      refine lv_aload_n hx hb dX4_put_16 rfl (lv_at hl 1 rfl) ?_
      refine g4_1 hx hb hts hi4 hown hK hW (k := 10) rfl (hts _ (wm 1 rfl)) dX4_put_17 ?_
      refine lv_iload_n hx hb dX4_put_20 rfl (lv_at hl 0 rfl) ?_
      refine lv_iload_n hx hb dX4_put_21 rfl (lv_at hl 3 rfl) ?_
      obtain ⟨hn22, hr⟩ := chk_e hr
      obtain ⟨M_30, eM_30, hr⟩ := lt1_e hr
      refine xiast hx hb hK hW (k := 12) (t := 22) rfl (by decide) (by decide) rfl (n := 6) hn22 (jx := (ix r_1)) rfl dX4_put_22 (fun H locs hW => ?_)
      rw [← eM_30] at hW
      rw [← Option.some.inj hr]
      exact xvret hx hb hr0 hlocks hW adR_rf dX4_put_23

set_option maxHeartbeats 4000000 in
set_option maxRecDepth 100000 in
theorem c_X4_take (l : Launch) (D : va_G) (cA : Nat → ClassId) (ad : Nat → Nat) (M : Mm) (x1 : Int32) {r : Int32} {M' : Mm} (hr : f_X4_take x1 M = some (r, M')) : Met l yX4_take wsX4_take ({ frames := 0, cells := 0, slots := 0, locals := 0 }) (PcX D true cA ad M [.ref (ad 10), .int x1]) (QiX false D true cA ad r M') 0 0 (AX true ad) := by
  refine Met.ofW (cc := cX4_take) (maxL := 4) (ret := (some .int)) (by decide) rfl ?_
  intro p e s m args below meth c s₁ B hml hv
  obtain ⟨hav, hP0, hK⟩ := hv
  have hx := B.exec
  have hb := B.bytes
  have hr0 := B.returns
  have hts := atoms_spec (ws := wsX4_take) B.pre
  have hown : s.vm.findClass RX4 = some m.cls := findClass_of_methodNamed B.named
  have hlocks := B.notSynchronized
  have hW := xstart hP0
  have hi4 : ∀ w ∈ wsX40, w ∈ wsX4_take := fun w h => List.mem_cons_of_mem _ (List.mem_append_right _ h)
  have hl := lv_entry ([.ref (ad 10), .int x1]) (n := 4) (Nat.le_of_ble_eq_true rfl)
  have hef := lg_entry_eq m ([.ref (ad 10), .int x1]) 4
  rw [← hav] at hef
  rw [hef]
  clear hef
  generalize (lg_sl ([.ref (ad 10), .int x1]) ++ List.replicate (4 - (lg_sl ([.ref (ad 10), .int x1])).length) Slot.unset).toArray = ls at hl ⊢
  have hl : lv_has ls 4 [(0, .ref (ad 10)), (1, .int x1)] := hl
  clear hP0
  unfold f_X4_take at hr
  refine lv_iload_n hx hb dX4_take_0 rfl (lv_at hl 1 rfl) ?_
  refine lv_if_lt (tgt := 18) hx hb dX4_take_1 (by decide) (fun c1 => ?_) (fun c1 => ?_)
  · have hr := br_p c1 hr
    refine lv_ldc (v := (-2000000003 : Int32)) hx hb hown (hts _ (wm 2 rfl)) dX4_take_18 ?_
    obtain ⟨e1, e2⟩ := Prod.mk.inj (Option.some.inj hr)
    rw [← e1, ← e2]
    exact xiret hx hb hr0 hlocks hW adR_rf dX4_take_20
  · have hr := br_n c1 hr
    refine lv_iload_n hx hb dX4_take_4 rfl (lv_at hl 1 rfl) ?_
    refine lv_aload_n hx hb dX4_take_5 rfl (lv_at hl 0 rfl) ?_
    refine g4_2 hx hb hts hi4 hown hK hW (k := 10) rfl (hts _ (wm 1 rfl)) dX4_take_6 ?_
    refine lv_icmp_ge (tgt := 18) hx hb dX4_take_9 (by decide) (fun c1 => ?_) (fun c1 => ?_)
    · have hr := br_p c1 hr
      refine lv_ldc (v := (-2000000003 : Int32)) hx hb hown (hts _ (wm 2 rfl)) dX4_take_18 ?_
      obtain ⟨e1, e2⟩ := Prod.mk.inj (Option.some.inj hr)
      rw [← e1, ← e2]
      exact xiret hx hb hr0 hlocks hW adR_rf dX4_take_20
    · have hr := br_n c1 hr
      refine lv_iload_n hx hb dX4_take_12 rfl (lv_at hl 1 rfl) ?_
      refine lv_bipush (v := (6 : Int32)) hx hb dX4_take_13 (by decide) ?_
      refine lv_icmp_lt (tgt := 21) hx hb dX4_take_15 (by decide) (fun c1 => ?_) (fun c1 => ?_)
      · have hr := br_p c1 hr
        refine lv_aload_n hx hb dX4_take_21 rfl (lv_at hl 0 rfl) ?_
        refine g4_1 hx hb hts hi4 hown hK hW (k := 10) rfl (hts _ (wm 3 rfl)) dX4_take_22 ?_
        refine lv_iload_n hx hb dX4_take_25 rfl (lv_at hl 1 rfl) ?_
        obtain ⟨hn26, hr⟩ := chk_e hr
        refine xiald hx hb hK hW (k := 12) (t := 22) rfl (by decide) (by decide) rfl (n := 6) hn26 (jx := (ix x1)) rfl dX4_take_26 ?_
        obtain ⟨x2_1, ex2_1, hr⟩ := lt1_e hr
        rw [← ex2_1]
        refine lv_istore_n (lv' := [(2, .int x2_1), (0, .ref (ad 10)), (1, .int x1)]) hx hb dX4_take_27 rfl hl (by decide) rfl (fun ls hl => ?_)
        refine lv_iload_n hx hb dX4_take_28 rfl (lv_at hl 2 rfl) ?_
        refine lv_iconst (v := (1 : Int32)) hx hb dX4_take_29 (by decide) ?_
        refine lv_iadd hx hb dX4_take_30 ?_
        obtain ⟨x3_2, ex3_2, hr⟩ := lt1_e hr
        rw [← ex3_2]
        refine lv_istore_n (lv' := [(3, .int x3_2), (2, .int x2_1), (0, .ref (ad 10)), (1, .int x1)]) hx hb dX4_take_31 rfl hl (by decide) rfl (fun ls hl => ?_)
        have hL32_1 : ∀ (n : Nat) (x3_3 : Int32) (M_4 : Mm) (H : Heap) (locs : List Loc) (ls : Array Slot) (M_5 : Mm), Xw D true cA ad M_4 (AX true ad) s.heap H locs → lv_has ls 4 [(2, .int x2_1), (0, .ref (ad 10)), (3, .int x3_3)] → f_X4_take_L32 n x3_3 M_4 = some M_5 → (∀ (H : Heap) (locs : List Loc) (ls : Array Slot), Xw D true cA ad M_5 (AX true ad) s.heap H locs → lv_has ls 4 [(2, .int x2_1), (0, .ref (ad 10))] → W p l e (headSpec wsX4_take { frames := 0, cells := 0, slots := 0, locals := 0 }).room s m args below meth c H locs 0 0 (MQ below (QiX false D true cA ad r M') args s 0 0 (AX true ad)) (F0 m 80 ls [])) → W p l e (headSpec wsX4_take { frames := 0, cells := 0, slots := 0, locals := 0 }).room s m args below meth c H locs 0 0 (MQ below (QiX false D true cA ad r M') args s 0 0 (AX true ad)) (F0 m 32 ls []) := by
          intro n
          induction n with
          | zero =>
            intro x3_3 M_4 H locs ls M_5 hW hl hr hk
            exact absurd hr (by simp [f_X4_take_L32])
          | succ n ih =>
            intro x3_3 M_4 H locs ls M_5 hW hl hr hk
            rw [f_X4_take_L32] at hr
            refine lv_iload_n hx hb dX4_take_32 rfl (lv_at hl 2 rfl) ?_
            refine lv_bipush (v := (6 : Int32)) hx hb dX4_take_33 (by decide) ?_
            refine lv_icmp_ge (tgt := 80) hx hb dX4_take_35 (by decide) (fun c1 => ?_) (fun c1 => ?_)
            · have hr := br_p c1 hr
              have e1 := Option.some.inj hr
              subst e1
              exact hk _ _ _ hW (lv_sub hl [0, 1] rfl)
            · have hr := br_n c1 hr
              refine lv_iload_n hx hb dX4_take_38 rfl (lv_at hl 2 rfl) ?_
              refine lv_aload_n hx hb dX4_take_39 rfl (lv_at hl 1 rfl) ?_
              refine g4_2 hx hb hts hi4 hown hK hW (k := 10) rfl (hts _ (wm 1 rfl)) dX4_take_40 ?_
              refine lv_icmp_ge (tgt := 80) hx hb dX4_take_43 (by decide) (fun c1 => ?_) (fun c1 => ?_)
              · have hr := br_p c1 hr
                have e1 := Option.some.inj hr
                subst e1
                exact hk _ _ _ hW (lv_sub hl [0, 1] rfl)
              · have hr := br_n c1 hr
                refine lv_aload_n hx hb dX4_take_46 rfl (lv_at hl 1 rfl) ?_
                refine g4_0 hx hb hts hi4 hown hK hW (k := 10) rfl (hts _ (wm 4 rfl)) dX4_take_47 ?_
                refine lv_iload_n hx hb dX4_take_50 rfl (lv_at hl 2 rfl) ?_
                refine lv_iconst (v := (1 : Int32)) hx hb dX4_take_51 (by decide) ?_
                refine lv_isub hx hb dX4_take_52 ?_
                refine lv_aload_n hx hb dX4_take_53 rfl (lv_at hl 1 rfl) ?_
                refine g4_0 hx hb hts hi4 hown hK hW (k := 10) rfl (hts _ (wm 4 rfl)) dX4_take_54 ?_
                refine lv_iload_n hx hb dX4_take_57 rfl (lv_at hl 2 rfl) ?_
                obtain ⟨hn58, hr⟩ := chk_e hr
                refine xiald hx hb hK hW (k := 11) (t := 22) rfl (by decide) (by decide) rfl (n := 6) hn58 (jx := (ix x3_3)) rfl dX4_take_58 ?_
                obtain ⟨hn59, hr⟩ := chk_e hr
                obtain ⟨M_6, eM_6, hr⟩ := lt1_e hr
                refine xiast hx hb hK hW (k := 11) (t := 22) rfl (by decide) (by decide) rfl (n := 6) hn59 (jx := (ix (x3_3 - (1 : Int32)))) rfl dX4_take_59 (fun H locs hW => ?_)
                rw [← eM_6] at hW
                refine lv_aload_n hx hb dX4_take_60 rfl (lv_at hl 1 rfl) ?_
                refine g4_1 hx hb hts hi4 hown hK hW (k := 10) rfl (hts _ (wm 3 rfl)) dX4_take_61 ?_
                refine lv_iload_n hx hb dX4_take_64 rfl (lv_at hl 2 rfl) ?_
                refine lv_iconst (v := (1 : Int32)) hx hb dX4_take_65 (by decide) ?_
                refine lv_isub hx hb dX4_take_66 ?_
                refine lv_aload_n hx hb dX4_take_67 rfl (lv_at hl 1 rfl) ?_
                refine g4_1 hx hb hts hi4 hown hK hW (k := 10) rfl (hts _ (wm 3 rfl)) dX4_take_68 ?_
                refine lv_iload_n hx hb dX4_take_71 rfl (lv_at hl 2 rfl) ?_
                obtain ⟨hn72, hr⟩ := chk_e hr
                refine xiald hx hb hK hW (k := 12) (t := 22) rfl (by decide) (by decide) rfl (n := 6) hn72 (jx := (ix x3_3)) rfl dX4_take_72 ?_
                obtain ⟨hn73, hr⟩ := chk_e hr
                obtain ⟨M_7, eM_7, hr⟩ := lt1_e hr
                refine xiast hx hb hK hW (k := 12) (t := 22) rfl (by decide) (by decide) rfl (n := 6) hn73 (jx := (ix (x3_3 - (1 : Int32)))) rfl dX4_take_73 (fun H locs hW => ?_)
                rw [← eM_7] at hW
                obtain ⟨x3_8, ex3_8, hr⟩ := lt1_e hr
                refine lv_iinc (v := x3_8) (lv' := [(3, .int x3_8), (2, .int x2_1), (0, .ref (ad 10))]) hx hb dX4_take_74 hl (k := 2) rfl (by rw [ex3_8]; rfl) (by decide) rfl (fun ls hl => ?_)
                refine lv_goto (tgt := 32) hx hb dX4_take_77 (by decide) ?_
                exact ih x3_8 M_7 _ _ _ _ hW (lv_sub hl [1, 2, 0] rfl) hr hk
        obtain ⟨M_5, hr, hr3⟩ := ob1_e hr
        refine hL32_1 1000 x3_2 M _ _ _ M_5 hW (lv_sub hl [1, 2, 0] rfl) hr (fun H locs ls hW hl => ?_)
        clear hr
        have hr := hr3
        refine lv_aload_n hx hb dX4_take_80 rfl (lv_at hl 1 rfl) ?_
        refine lv_dup hx hb dX4_take_81 rfl ?_
        refine g4_2 hx hb hts hi4 hown hK hW (k := 10) rfl (hts _ (wm 1 rfl)) dX4_take_82 ?_
        refine lv_iconst (v := (1 : Int32)) hx hb dX4_take_85 (by decide) ?_
        refine lv_isub hx hb dX4_take_86 ?_
        obtain ⟨M_9, eM_9, hr⟩ := lt1_e hr
        refine p4_2 hx hb hts hi4 hown hK hW (k := 10) rfl (hts _ (wm 1 rfl)) dX4_take_87 (fun H locs hW => ?_)
        rw [← eM_9] at hW
        refine lv_iload_n hx hb dX4_take_90 rfl (lv_at hl 0 rfl) ?_
        obtain ⟨e1, e2⟩ := Prod.mk.inj (Option.some.inj hr)
        rw [← e1, ← e2]
        exact xiret hx hb hr0 hlocks hW adR_rf dX4_take_91
      · have hr := br_n c1 hr
        refine lv_ldc (v := (-2000000003 : Int32)) hx hb hown (hts _ (wm 2 rfl)) dX4_take_18 ?_
        obtain ⟨e1, e2⟩ := Prod.mk.inj (Option.some.inj hr)
        rw [← e1, ← e2]
        exact xiret hx hb hr0 hlocks hW adR_rf dX4_take_20

set_option maxHeartbeats 4000000 in
set_option maxRecDepth 100000 in
theorem c_X6_latest (l : Launch) (D : va_G) (cA : Nat → ClassId) (ad : Nat → Nat) (M : Mm) (x1 : Int32) {r : Option Nat} (hr : f_X6_latest x1 M = some r) : Met l yX6_latest wsX6_latest ({ frames := 0, cells := 0, slots := 0, locals := 0 }) (PcX D true cA ad M [.ref (ad 14), .int x1]) (QqX false D true cA ad r M) 0 0 (AX true ad) := by
  refine Met.ofW (cc := cX6_latest) (maxL := 2) (ret := (some (.object "TransitMeter$Round"))) (by decide) rfl ?_
  intro p e s m args below meth c s₁ B hml hv
  obtain ⟨hav, hP0, hK⟩ := hv
  have hx := B.exec
  have hb := B.bytes
  have hr0 := B.returns
  have hts := atoms_spec (ws := wsX6_latest) B.pre
  have hown : s.vm.findClass RX6 = some m.cls := findClass_of_methodNamed B.named
  have hlocks := B.notSynchronized
  have hW := xstart hP0
  have hi6 : ∀ w ∈ wsX60, w ∈ wsX6_latest := fun w h => List.mem_cons_of_mem _ (List.mem_append_right _ h)
  have hl := lv_entry ([.ref (ad 14), .int x1]) (n := 2) (Nat.le_of_ble_eq_true rfl)
  have hef := lg_entry_eq m ([.ref (ad 14), .int x1]) 2
  rw [← hav] at hef
  rw [hef]
  clear hef
  generalize (lg_sl ([.ref (ad 14), .int x1]) ++ List.replicate (2 - (lg_sl ([.ref (ad 14), .int x1])).length) Slot.unset).toArray = ls at hl ⊢
  have hl : lv_has ls 2 [(0, .ref (ad 14)), (1, .int x1)] := hl
  clear hP0
  unfold f_X6_latest at hr
  refine lv_iload_n hx hb dX6_latest_0 rfl (lv_at hl 1 rfl) ?_
  refine lv_if_lt (tgt := 27) hx hb dX6_latest_1 (by decide) (fun c1 => ?_) (fun c1 => ?_)
  · have hr := br_p c1 hr
    refine lv_null hx hb dX6_latest_27 ?_
    rw [← Option.some.inj hr]
    exact xaretN hx hb hr0 hlocks hW adR_rf dX6_latest_28
  · have hr := br_n c1 hr
    refine lv_iload_n hx hb dX6_latest_4 rfl (lv_at hl 1 rfl) ?_
    refine lv_aload_n hx hb dX6_latest_5 rfl (lv_at hl 0 rfl) ?_
    refine g6_1 hx hb hts hi6 hown hK hW (k := 14) rfl (hts _ (wm 1 rfl)) dX6_latest_6 ?_
    refine lv_icmp_ge (tgt := 27) hx hb dX6_latest_9 (by decide) (fun c1 => ?_) (fun c1 => ?_)
    · have hr := br_p c1 hr
      refine lv_null hx hb dX6_latest_27 ?_
      rw [← Option.some.inj hr]
      exact xaretN hx hb hr0 hlocks hW adR_rf dX6_latest_28
    · have hr := br_n c1 hr
      refine lv_iload_n hx hb dX6_latest_12 rfl (lv_at hl 1 rfl) ?_
      refine lv_bipush (v := (12 : Int32)) hx hb dX6_latest_13 (by decide) ?_
      refine lv_icmp_ge (tgt := 27) hx hb dX6_latest_15 (by decide) (fun c1 => ?_) (fun c1 => ?_)
      · have hr := br_p c1 hr
        refine lv_null hx hb dX6_latest_27 ?_
        rw [← Option.some.inj hr]
        exact xaretN hx hb hr0 hlocks hW adR_rf dX6_latest_28
      · have hr := br_n c1 hr
        refine lv_aload_n hx hb dX6_latest_18 rfl (lv_at hl 0 rfl) ?_
        refine g6_0 hx hb hts hi6 hown hK hW (k := 14) rfl (hts _ (wm 2 rfl)) dX6_latest_19 ?_
        refine lv_iload_n hx hb dX6_latest_22 rfl (lv_at hl 1 rfl) ?_
        obtain ⟨hn23, hr⟩ := chk_e hr
        refine xaald hx hb hK hW (k := 15) (t := 51) rfl (by decide) (by decide) rfl (t0 := 4) rfl hn23 dX6_latest_23 ?_
        refine lv_goto (tgt := 28) hx hb dX6_latest_24 (by decide) ?_
        rw [← Option.some.inj hr]
        exact xaret hx hb hr0 hlocks hW adR_rf dX6_latest_28

set_option maxHeartbeats 4000000 in
set_option maxRecDepth 100000 in
theorem c_X6_isMeasured (l : Launch) (D : va_G) (cA : Nat → ClassId) (ad : Nat → Nat) (M : Mm) (x1 : Int32) {r : Int32} (hr : f_X6_isMeasured x1 M = some r) : Met l yX6_isMeasured wsX6_isMeasured ({ frames := 0, cells := 0, slots := 0, locals := 0 }) (PcX D true cA ad M [.ref (ad 14), .int x1]) (QiX false D true cA ad r M) 0 0 (AX true ad) := by
  refine Met.ofW (cc := cX6_isMeasured) (maxL := 2) (ret := (some .boolean)) (by decide) rfl ?_
  intro p e s m args below meth c s₁ B hml hv
  obtain ⟨hav, hP0, hK⟩ := hv
  have hx := B.exec
  have hb := B.bytes
  have hr0 := B.returns
  have hts := atoms_spec (ws := wsX6_isMeasured) B.pre
  have hown : s.vm.findClass RX6 = some m.cls := findClass_of_methodNamed B.named
  have hlocks := B.notSynchronized
  have hW := xstart hP0
  have hi5 : ∀ w ∈ wsX50, w ∈ wsX6_isMeasured := fun w h => List.mem_cons_of_mem _ (List.mem_append_right _ h)
  have hi6 : ∀ w ∈ wsX60, w ∈ wsX6_isMeasured := fun w h => List.mem_cons_of_mem _ (List.mem_append_left _ (List.mem_append_right _ h))
  have hl := lv_entry ([.ref (ad 14), .int x1]) (n := 2) (Nat.le_of_ble_eq_true rfl)
  have hef := lg_entry_eq m ([.ref (ad 14), .int x1]) 2
  rw [← hav] at hef
  rw [hef]
  clear hef
  generalize (lg_sl ([.ref (ad 14), .int x1]) ++ List.replicate (2 - (lg_sl ([.ref (ad 14), .int x1])).length) Slot.unset).toArray = ls at hl ⊢
  have hl : lv_has ls 2 [(0, .ref (ad 14)), (1, .int x1)] := hl
  clear hP0
  unfold f_X6_isMeasured at hr
  refine lv_iload_n hx hb dX6_isMeasured_0 rfl (lv_at hl 1 rfl) ?_
  refine lv_if_lt (tgt := 36) hx hb dX6_isMeasured_1 (by decide) (fun c1 => ?_) (fun c1 => ?_)
  · have hr := br_p c1 hr
    refine lv_iconst (v := (0 : Int32)) hx hb dX6_isMeasured_36 (by decide) ?_
    rw [← Option.some.inj hr]
    exact xzret hx hb hr0 hlocks hW adR_rf (by decide) dX6_isMeasured_37
  · have hr := br_n c1 hr
    refine lv_iload_n hx hb dX6_isMeasured_4 rfl (lv_at hl 1 rfl) ?_
    refine lv_aload_n hx hb dX6_isMeasured_5 rfl (lv_at hl 0 rfl) ?_
    refine g6_1 hx hb hts hi6 hown hK hW (k := 14) rfl (hts _ (wm 1 rfl)) dX6_isMeasured_6 ?_
    refine lv_icmp_ge (tgt := 36) hx hb dX6_isMeasured_9 (by decide) (fun c1 => ?_) (fun c1 => ?_)
    · have hr := br_p c1 hr
      refine lv_iconst (v := (0 : Int32)) hx hb dX6_isMeasured_36 (by decide) ?_
      rw [← Option.some.inj hr]
      exact xzret hx hb hr0 hlocks hW adR_rf (by decide) dX6_isMeasured_37
    · have hr := br_n c1 hr
      refine lv_iload_n hx hb dX6_isMeasured_12 rfl (lv_at hl 1 rfl) ?_
      refine lv_bipush (v := (12 : Int32)) hx hb dX6_isMeasured_13 (by decide) ?_
      refine lv_icmp_ge (tgt := 36) hx hb dX6_isMeasured_15 (by decide) (fun c1 => ?_) (fun c1 => ?_)
      · have hr := br_p c1 hr
        refine lv_iconst (v := (0 : Int32)) hx hb dX6_isMeasured_36 (by decide) ?_
        rw [← Option.some.inj hr]
        exact xzret hx hb hr0 hlocks hW adR_rf (by decide) dX6_isMeasured_37
      · have hr := br_n c1 hr
        refine lv_aload_n hx hb dX6_isMeasured_18 rfl (lv_at hl 0 rfl) ?_
        refine g6_0 hx hb hts hi6 hown hK hW (k := 14) rfl (hts _ (wm 2 rfl)) dX6_isMeasured_19 ?_
        refine lv_iload_n hx hb dX6_isMeasured_22 rfl (lv_at hl 1 rfl) ?_
        obtain ⟨hn23, hr⟩ := chk_e hr
        refine xaald hx hb hK hW (k := 15) (t := 51) rfl (by decide) (by decide) rfl (t0 := 4) rfl hn23 dX6_isMeasured_23 ?_
        refine g5_0 hx hb hts hi5 hown hK hW (k := (rid 51 15 (ix x1))) (ks_51 (k := 15) rfl hn23) (hts _ (wm 3 rfl)) dX6_isMeasured_24 ?_
        refine lv_ldc (v := (-2000000005 : Int32)) hx hb hown (hts _ (wm 4 rfl)) dX6_isMeasured_27 ?_
        refine lv_icmp_eq (tgt := 36) hx hb dX6_isMeasured_29 (by decide) (fun c1 => ?_) (fun c1 => ?_)
        · have hr := br_p c1 hr
          refine lv_iconst (v := (0 : Int32)) hx hb dX6_isMeasured_36 (by decide) ?_
          rw [← Option.some.inj hr]
          exact xzret hx hb hr0 hlocks hW adR_rf (by decide) dX6_isMeasured_37
        · have hr := br_n c1 hr
          refine lv_iconst (v := (1 : Int32)) hx hb dX6_isMeasured_32 (by decide) ?_
          refine lv_goto (tgt := 37) hx hb dX6_isMeasured_33 (by decide) ?_
          rw [← Option.some.inj hr]
          exact xzret hx hb hr0 hlocks hW adR_rf (by decide) dX6_isMeasured_37

set_option maxHeartbeats 4000000 in
set_option maxRecDepth 100000 in
theorem c_X6_measuredCount (l : Launch) (D : va_G) (cA : Nat → ClassId) (ad : Nat → Nat) (M : Mm) {r : Int32} (hr : f_X6_measuredCount M = some r) : Met l yX6_measuredCount wsX6_measuredCount ({ frames := 1, cells := 0, slots := 0, locals := 21 }) (PcX D true cA ad M [.ref (ad 14)]) (QiX false D true cA ad r M) 0 0 (AX true ad) := by
  refine Met.ofW (cc := cX6_measuredCount) (maxL := 3) (ret := (some .int)) (by decide) rfl ?_
  intro p e s m args below meth c s₁ B hml hv
  obtain ⟨hav, hP0, hK⟩ := hv
  have hx := B.exec
  have hb := B.bytes
  have hr0 := B.returns
  have hts := atoms_spec (ws := wsX6_measuredCount) B.pre
  have hown : s.vm.findClass RX6 = some m.cls := findClass_of_methodNamed B.named
  have hlocks := B.notSynchronized
  have hW := xstart hP0
  have hl := lv_entry ([.ref (ad 14)]) (n := 3) (Nat.le_of_ble_eq_true rfl)
  have hef := lg_entry_eq m ([.ref (ad 14)]) 3
  rw [← hav] at hef
  rw [hef]
  clear hef
  generalize (lg_sl ([.ref (ad 14)]) ++ List.replicate (3 - (lg_sl ([.ref (ad 14)])).length) Slot.unset).toArray = ls at hl ⊢
  have hl : lv_has ls 3 [(0, .ref (ad 14))] := hl
  clear hP0
  unfold f_X6_measuredCount at hr
  refine lv_iconst (v := (0 : Int32)) hx hb dX6_measuredCount_0 (by decide) ?_
  refine lv_istore_n (lv' := [(1, .int (0 : Int32)), (0, .ref (ad 14))]) hx hb dX6_measuredCount_1 rfl hl (by decide) rfl (fun ls hl => ?_)
  refine lv_iconst (v := (0 : Int32)) hx hb dX6_measuredCount_2 (by decide) ?_
  refine lv_istore_n (lv' := [(2, .int (0 : Int32)), (1, .int (0 : Int32)), (0, .ref (ad 14))]) hx hb dX6_measuredCount_3 rfl hl (by decide) rfl (fun ls hl => ?_)
  have hL4_1 : ∀ (n : Nat) (x1_1 : Int32) (x2_2 : Int32) (H : Heap) (locs : List Loc) (ls : Array Slot) (x1_3 : Int32), Xw D true cA ad M (AX true ad) s.heap H locs → lv_has ls 3 [(0, .ref (ad 14)), (1, .int x1_1), (2, .int x2_2)] → f_X6_measuredCount_L4 M n x1_1 x2_2 = some x1_3 → (∀ (H : Heap) (locs : List Loc) (ls : Array Slot), Xw D true cA ad M (AX true ad) s.heap H locs → lv_has ls 3 [(1, .int x1_3)] → W p l e (headSpec wsX6_measuredCount { frames := 1, cells := 0, slots := 0, locals := 21 }).room s m args below meth c H locs 0 0 (MQ below (QiX false D true cA ad r M) args s 0 0 (AX true ad)) (F0 m 27 ls [])) → W p l e (headSpec wsX6_measuredCount { frames := 1, cells := 0, slots := 0, locals := 21 }).room s m args below meth c H locs 0 0 (MQ below (QiX false D true cA ad r M) args s 0 0 (AX true ad)) (F0 m 4 ls []) := by
    intro n
    induction n with
    | zero =>
      intro x1_1 x2_2 H locs ls x1_3 hW hl hr hk
      exact absurd hr (by simp [f_X6_measuredCount_L4])
    | succ n ih =>
      intro x1_1 x2_2 H locs ls x1_3 hW hl hr hk
      rw [f_X6_measuredCount_L4] at hr
      refine lv_iload_n hx hb dX6_measuredCount_4 rfl (lv_at hl 2 rfl) ?_
      refine lv_bipush (v := (12 : Int32)) hx hb dX6_measuredCount_5 (by decide) ?_
      refine lv_icmp_ge (tgt := 27) hx hb dX6_measuredCount_7 (by decide) (fun c1 => ?_) (fun c1 => ?_)
      · have hr := br_p c1 hr
        have e1 := Option.some.inj hr
        subst e1
        exact hk _ _ _ hW (lv_sub hl [1] rfl)
      · have hr := br_n c1 hr
        refine lv_iload_n hx hb dX6_measuredCount_10 rfl (lv_at hl 1 rfl) ?_
        refine lv_aload_n hx hb dX6_measuredCount_11 rfl (lv_at hl 0 rfl) ?_
        refine lv_iload_n hx hb dX6_measuredCount_12 rfl (lv_at hl 2 rfl) ?_
        obtain ⟨r_4, hc13, hr⟩ := ob1_e hr
        refine xk_i (va_runV (As := [.int x2_2]) (rest := [.int x1_1]) ⟨hx, hb, hml, hown, hts⟩ (c_X6_isMeasured l D cA ad M x2_2 hc13) (cwV 1 hts gX6_measuredCount_X6_isMeasured rfl rfl rfl (by decide +kernel) ⟨Nat.le_of_ble_eq_true rfl, Nat.le_of_ble_eq_true rfl⟩) (xpreV hK hW (k := 14) rfl (by decide) rfl) rfl rfl hl.1 rfl (lv_room (Nat.le_of_ble_eq_true rfl)) dX6_measuredCount_13 ⟨Nat.le_of_ble_eq_true rfl, Nat.le_of_ble_eq_true rfl⟩) hW (fun H locs hW => ?_)
        obtain ⟨r_5, hc16, hr⟩ := ob1_e hr
        refine xk_i (va_runSN (As := [.int r_4]) (rest := [.int x1_1]) ⟨hx, hb, hml, hown, hts⟩ (c_X10_asNumber l D cA ad M r_4 hc16) ⟨va_cnB 1 hts gX6_measuredCount_X10_asNumber_n40 rfl rfl rfl hK.2.2.2.2.2.2.2.2.2.2.2.2.2.2.2.2.2.2.2.2.1 (hts _ (wm 11 rfl)) (by decide +kernel) ⟨Nat.le_of_ble_eq_true rfl, Nat.le_of_ble_eq_true rfl⟩, (hts _ (wm 10 rfl)), trivial⟩ (xpreS hK hW) rfl rfl hl.1 rfl (lv_room (Nat.le_of_ble_eq_true rfl)) dX6_measuredCount_16 ⟨Nat.le_of_ble_eq_true rfl, Nat.le_of_ble_eq_true rfl⟩) hW (fun H locs hW => ?_)
        refine lv_iadd hx hb dX6_measuredCount_19 ?_
        obtain ⟨x1_6, ex1_6, hr⟩ := lt1_e hr
        rw [← ex1_6]
        refine lv_istore_n (lv' := [(1, .int x1_6), (0, .ref (ad 14)), (2, .int x2_2)]) hx hb dX6_measuredCount_20 rfl hl (by decide) rfl (fun ls hl => ?_)
        obtain ⟨x2_7, ex2_7, hr⟩ := lt1_e hr
        refine lv_iinc (v := x2_7) (lv' := [(2, .int x2_7), (1, .int x1_6), (0, .ref (ad 14))]) hx hb dX6_measuredCount_21 hl (k := 2) rfl (by rw [ex2_7]; rfl) (by decide) rfl (fun ls hl => ?_)
        refine lv_goto (tgt := 4) hx hb dX6_measuredCount_24 (by decide) ?_
        exact ih x1_6 x2_7 _ _ _ _ hW (lv_sub hl [2, 1, 0] rfl) hr hk
  obtain ⟨x1_3, hr, hr3⟩ := ob1_e hr
  refine hL4_1 1000 (0 : Int32) (0 : Int32) _ _ _ x1_3 hW (lv_sub hl [2, 1, 0] rfl) hr (fun H locs ls hW hl => ?_)
  clear hr
  have hr := hr3
  refine lv_iload_n hx hb dX6_measuredCount_27 rfl (lv_at hl 0 rfl) ?_
  rw [← Option.some.inj hr]
  exact xiret hx hb hr0 hlocks hW adR_rf dX6_measuredCount_28

set_option maxHeartbeats 4000000 in
set_option maxRecDepth 100000 in
theorem c_X6_countUpTo (l : Launch) (D : va_G) (cA : Nat → ClassId) (ad : Nat → Nat) (M : Mm) (x1 : Int32) {r : Int32} (hr : f_X6_countUpTo x1 M = some r) : Met l yX6_countUpTo wsX6_countUpTo ({ frames := 1, cells := 0, slots := 0, locals := 21 }) (PcX D true cA ad M [.ref (ad 14), .int x1]) (QiX false D true cA ad r M) 0 0 (AX true ad) := by
  refine Met.ofW (cc := cX6_countUpTo) (maxL := 4) (ret := (some .int)) (by decide) rfl ?_
  intro p e s m args below meth c s₁ B hml hv
  obtain ⟨hav, hP0, hK⟩ := hv
  have hx := B.exec
  have hb := B.bytes
  have hr0 := B.returns
  have hts := atoms_spec (ws := wsX6_countUpTo) B.pre
  have hown : s.vm.findClass RX6 = some m.cls := findClass_of_methodNamed B.named
  have hlocks := B.notSynchronized
  have hW := xstart hP0
  have hi5 : ∀ w ∈ wsX50, w ∈ wsX6_countUpTo := fun w h => List.mem_cons_of_mem _ (List.mem_append_right _ h)
  have hi6 : ∀ w ∈ wsX60, w ∈ wsX6_countUpTo := fun w h => List.mem_cons_of_mem _ (List.mem_append_left _ (List.mem_append_right _ h))
  have hl := lv_entry ([.ref (ad 14), .int x1]) (n := 4) (Nat.le_of_ble_eq_true rfl)
  have hef := lg_entry_eq m ([.ref (ad 14), .int x1]) 4
  rw [← hav] at hef
  rw [hef]
  clear hef
  generalize (lg_sl ([.ref (ad 14), .int x1]) ++ List.replicate (4 - (lg_sl ([.ref (ad 14), .int x1])).length) Slot.unset).toArray = ls at hl ⊢
  have hl : lv_has ls 4 [(0, .ref (ad 14)), (1, .int x1)] := hl
  clear hP0
  unfold f_X6_countUpTo at hr
  refine lv_iconst (v := (0 : Int32)) hx hb dX6_countUpTo_0 (by decide) ?_
  refine lv_istore_n (lv' := [(2, .int (0 : Int32)), (0, .ref (ad 14)), (1, .int x1)]) hx hb dX6_countUpTo_1 rfl hl (by decide) rfl (fun ls hl => ?_)
  refine lv_iconst (v := (0 : Int32)) hx hb dX6_countUpTo_2 (by decide) ?_
  refine lv_istore_n (lv' := [(3, .int (0 : Int32)), (2, .int (0 : Int32)), (0, .ref (ad 14)), (1, .int x1)]) hx hb dX6_countUpTo_3 rfl hl (by decide) rfl (fun ls hl => ?_)
  have hL4_1 : ∀ (n : Nat) (x2_1 : Int32) (x3_2 : Int32) (H : Heap) (locs : List Loc) (ls : Array Slot) (x2_3 : Int32), Xw D true cA ad M (AX true ad) s.heap H locs → lv_has ls 4 [(0, .ref (ad 14)), (1, .int x1), (2, .int x2_1), (3, .int x3_2)] → f_X6_countUpTo_L4 M x1 n x2_1 x3_2 = some x2_3 → (∀ (H : Heap) (locs : List Loc) (ls : Array Slot), Xw D true cA ad M (AX true ad) s.heap H locs → lv_has ls 4 [(2, .int x2_3)] → W p l e (headSpec wsX6_countUpTo { frames := 1, cells := 0, slots := 0, locals := 21 }).room s m args below meth c H locs 0 0 (MQ below (QiX false D true cA ad r M) args s 0 0 (AX true ad)) (F0 m 40 ls [])) → W p l e (headSpec wsX6_countUpTo { frames := 1, cells := 0, slots := 0, locals := 21 }).room s m args below meth c H locs 0 0 (MQ below (QiX false D true cA ad r M) args s 0 0 (AX true ad)) (F0 m 4 ls []) := by
    intro n
    induction n with
    | zero =>
      intro x2_1 x3_2 H locs ls x2_3 hW hl hr hk
      exact absurd hr (by simp [f_X6_countUpTo_L4])
    | succ n ih =>
      intro x2_1 x3_2 H locs ls x2_3 hW hl hr hk
      rw [f_X6_countUpTo_L4] at hr
      refine lv_iload_n hx hb dX6_countUpTo_4 rfl (lv_at hl 3 rfl) ?_
      refine lv_bipush (v := (12 : Int32)) hx hb dX6_countUpTo_5 (by decide) ?_
      refine lv_icmp_ge (tgt := 40) hx hb dX6_countUpTo_7 (by decide) (fun c1 => ?_) (fun c1 => ?_)
      · have hr := br_p c1 hr
        have e1 := Option.some.inj hr
        subst e1
        exact hk _ _ _ hW (lv_sub hl [2] rfl)
      · have hr := br_n c1 hr
        refine lv_aload_n hx hb dX6_countUpTo_10 rfl (lv_at hl 0 rfl) ?_
        refine lv_iload_n hx hb dX6_countUpTo_11 rfl (lv_at hl 3 rfl) ?_
        obtain ⟨r_4, hc12, hr⟩ := ob1_e hr
        refine xk_i (va_runV (As := [.int x3_2]) (rest := []) ⟨hx, hb, hml, hown, hts⟩ (c_X6_isMeasured l D cA ad M x3_2 hc12) (cwV 1 hts gX6_countUpTo_X6_isMeasured rfl rfl rfl (by decide +kernel) ⟨Nat.le_of_ble_eq_true rfl, Nat.le_of_ble_eq_true rfl⟩) (xpreV hK hW (k := 14) rfl (by decide) rfl) rfl rfl hl.1 rfl (lv_room (Nat.le_of_ble_eq_true rfl)) dX6_countUpTo_12 ⟨Nat.le_of_ble_eq_true rfl, Nat.le_of_ble_eq_true rfl⟩) hW (fun H locs hW => ?_)
        obtain ⟨x2_5, hr, hr3⟩ := ob1_e hr
        have hj34_5 : ∀ (H : Heap) (locs : List Loc) (ls : Array Slot), Xw D true cA ad M (AX true ad) s.heap H locs → lv_has ls 4 [(0, .ref (ad 14)), (1, .int x1), (3, .int x3_2), (2, .int x2_5)] → W p l e (headSpec wsX6_countUpTo { frames := 1, cells := 0, slots := 0, locals := 21 }).room s m args below meth c H locs 0 0 (MQ below (QiX false D true cA ad r M) args s 0 0 (AX true ad)) (F0 m 34 ls []) := by
          intro H locs ls hW hl
          have hr := hr3
          obtain ⟨x3_7, ex3_7, hr⟩ := lt1_e hr
          refine lv_iinc (v := x3_7) (lv' := [(3, .int x3_7), (0, .ref (ad 14)), (1, .int x1), (2, .int x2_5)]) hx hb dX6_countUpTo_34 hl (k := 2) rfl (by rw [ex3_7]; rfl) (by decide) rfl (fun ls hl => ?_)
          refine lv_goto (tgt := 4) hx hb dX6_countUpTo_37 (by decide) ?_
          exact ih x2_5 x3_7 _ _ _ _ hW (lv_sub hl [1, 2, 3, 0] rfl) hr hk
        clear hr3
        refine lv_if_eq (tgt := 34) hx hb dX6_countUpTo_15 (by decide) (fun c1 => ?_) (fun c1 => ?_)
        · have hr := br_p c1 hr
          have e1 := Option.some.inj hr
          subst e1
          exact hj34_5 _ _ _ hW (lv_sub hl [0, 1, 3, 2] rfl)
        · have hr := br_n c1 hr
          refine lv_aload_n hx hb dX6_countUpTo_18 rfl (lv_at hl 0 rfl) ?_
          refine g6_0 hx hb hts hi6 hown hK hW (k := 14) rfl (hts _ (wm 1 rfl)) dX6_countUpTo_19 ?_
          refine lv_iload_n hx hb dX6_countUpTo_22 rfl (lv_at hl 3 rfl) ?_
          obtain ⟨hn23, hr⟩ := chk_e hr
          refine xaald hx hb hK hW (k := 15) (t := 51) rfl (by decide) (by decide) rfl (t0 := 4) rfl hn23 dX6_countUpTo_23 ?_
          refine g5_0 hx hb hts hi5 hown hK hW (k := (rid 51 15 (ix x3_2))) (ks_51 (k := 15) rfl hn23) (hts _ (wm 2 rfl)) dX6_countUpTo_24 ?_
          refine lv_iload_n hx hb dX6_countUpTo_27 rfl (lv_at hl 1 rfl) ?_
          refine lv_icmp_gt (tgt := 34) hx hb dX6_countUpTo_28 (by decide) (fun c1 => ?_) (fun c1 => ?_)
          · have hr := br_p c1 hr
            have e1 := Option.some.inj hr
            subst e1
            exact hj34_5 _ _ _ hW (lv_sub hl [0, 1, 3, 2] rfl)
          · have hr := br_n c1 hr
            obtain ⟨x2_6, ex2_6, hr⟩ := lt1_e hr
            refine lv_iinc (v := x2_6) (lv' := [(2, .int x2_6), (0, .ref (ad 14)), (1, .int x1), (3, .int x3_2)]) hx hb dX6_countUpTo_31 hl (k := 2) rfl (by rw [ex2_6]; rfl) (by decide) rfl (fun ls hl => ?_)
            have e1 := Option.some.inj hr
            subst e1
            exact hj34_5 _ _ _ hW (lv_sub hl [1, 2, 3, 0] rfl)
  obtain ⟨x2_3, hr, hr3⟩ := ob1_e hr
  refine hL4_1 1000 (0 : Int32) (0 : Int32) _ _ _ x2_3 hW (lv_sub hl [2, 3, 1, 0] rfl) hr (fun H locs ls hW hl => ?_)
  clear hr
  have hr := hr3
  refine lv_iload_n hx hb dX6_countUpTo_40 rfl (lv_at hl 0 rfl) ?_
  rw [← Option.some.inj hr]
  exact xiret hx hb hr0 hlocks hW adR_rf dX6_countUpTo_41

set_option maxHeartbeats 4000000 in
set_option maxRecDepth 100000 in
theorem c_X6_ranked (l : Launch) (D : va_G) (cA : Nat → ClassId) (ad : Nat → Nat) (M : Mm) (x1 : Int32) {r : Int32} (hr : f_X6_ranked x1 M = some r) : Met l yX6_ranked wsX6_ranked ({ frames := 2, cells := 0, slots := 0, locals := 44 }) (PcX D true cA ad M [.ref (ad 14), .int x1]) (QiX false D true cA ad r M) 0 0 (AX true ad) := by
  refine Met.ofW (cc := cX6_ranked) (maxL := 4) (ret := (some .int)) (by decide) rfl ?_
  intro p e s m args below meth c s₁ B hml hv
  obtain ⟨hav, hP0, hK⟩ := hv
  have hx := B.exec
  have hb := B.bytes
  have hr0 := B.returns
  have hts := atoms_spec (ws := wsX6_ranked) B.pre
  have hown : s.vm.findClass RX6 = some m.cls := findClass_of_methodNamed B.named
  have hlocks := B.notSynchronized
  have hW := xstart hP0
  have hi5 : ∀ w ∈ wsX50, w ∈ wsX6_ranked := fun w h => List.mem_cons_of_mem _ (List.mem_append_right _ h)
  have hi6 : ∀ w ∈ wsX60, w ∈ wsX6_ranked := fun w h => List.mem_cons_of_mem _ (List.mem_append_left _ (List.mem_append_right _ h))
  have hl := lv_entry ([.ref (ad 14), .int x1]) (n := 4) (Nat.le_of_ble_eq_true rfl)
  have hef := lg_entry_eq m ([.ref (ad 14), .int x1]) 4
  rw [← hav] at hef
  rw [hef]
  clear hef
  generalize (lg_sl ([.ref (ad 14), .int x1]) ++ List.replicate (4 - (lg_sl ([.ref (ad 14), .int x1])).length) Slot.unset).toArray = ls at hl ⊢
  have hl : lv_has ls 4 [(0, .ref (ad 14)), (1, .int x1)] := hl
  clear hP0
  unfold f_X6_ranked at hr
  refine lv_iconst (v := (0 : Int32)) hx hb dX6_ranked_0 (by decide) ?_
  refine lv_istore_n (lv' := [(2, .int (0 : Int32)), (0, .ref (ad 14)), (1, .int x1)]) hx hb dX6_ranked_1 rfl hl (by decide) rfl (fun ls hl => ?_)
  have hL2_1 : ∀ (n : Nat) (x2_1 : Int32) (H : Heap) (locs : List Loc) (ls : Array Slot), Xw D true cA ad M (AX true ad) s.heap H locs → lv_has ls 4 [(0, .ref (ad 14)), (1, .int x1), (2, .int x2_1)] → f_X6_ranked_L2 M x1 n x2_1 = some r → W p l e (headSpec wsX6_ranked { frames := 2, cells := 0, slots := 0, locals := 44 }).room s m args below meth c H locs 0 0 (MQ below (QiX false D true cA ad r M) args s 0 0 (AX true ad)) (F0 m 2 ls []) := by
    intro n
    induction n with
    | zero =>
      intro x2_1 H locs ls hW hl hr
      exact absurd hr (by simp [f_X6_ranked_L2])
    | succ n ih =>
      intro x2_1 H locs ls hW hl hr
      rw [f_X6_ranked_L2] at hr
      refine lv_iload_n hx hb dX6_ranked_2 rfl (lv_at hl 2 rfl) ?_
      refine lv_bipush (v := (12 : Int32)) hx hb dX6_ranked_3 (by decide) ?_
      refine lv_icmp_ge (tgt := 54) hx hb dX6_ranked_5 (by decide) (fun c1 => ?_) (fun c1 => ?_)
      · have hr := br_p c1 hr
        refine lv_ldc (v := (-2000000005 : Int32)) hx hb hown (hts _ (wm 3 rfl)) dX6_ranked_54 ?_
        rw [← Option.some.inj hr]
        exact xiret hx hb hr0 hlocks hW adR_rf dX6_ranked_56
      · have hr := br_n c1 hr
        refine lv_aload_n hx hb dX6_ranked_8 rfl (lv_at hl 0 rfl) ?_
        refine lv_iload_n hx hb dX6_ranked_9 rfl (lv_at hl 2 rfl) ?_
        obtain ⟨r_2, hc10, hr⟩ := ob1_e hr
        refine xk_i (va_runV (As := [.int x2_1]) (rest := []) ⟨hx, hb, hml, hown, hts⟩ (c_X6_isMeasured l D cA ad M x2_1 hc10) (cwV 1 hts gX6_ranked_X6_isMeasured rfl rfl rfl (by decide +kernel) ⟨Nat.le_of_ble_eq_true rfl, Nat.le_of_ble_eq_true rfl⟩) (xpreV hK hW (k := 14) rfl (by decide) rfl) rfl rfl hl.1 rfl (lv_room (Nat.le_of_ble_eq_true rfl)) dX6_ranked_10 ⟨Nat.le_of_ble_eq_true rfl, Nat.le_of_ble_eq_true rfl⟩) hW (fun H locs hW => ?_)
        refine lv_if_eq (tgt := 48) hx hb dX6_ranked_13 (by decide) (fun c1 => ?_) (fun c1 => ?_)
        · have hr := br_p c1 hr
          obtain ⟨x2_3, ex2_3, hr⟩ := lt1_e hr
          refine lv_iinc (v := x2_3) (lv' := [(2, .int x2_3), (0, .ref (ad 14)), (1, .int x1)]) hx hb dX6_ranked_48 hl (k := 2) rfl (by rw [ex2_3]; rfl) (by decide) rfl (fun ls hl => ?_)
          refine lv_goto (tgt := 2) hx hb dX6_ranked_51 (by decide) ?_
          exact ih x2_3 _ _ _ hW (lv_sub hl [1, 2, 0] rfl) hr
        · have hr := br_n c1 hr
          refine lv_aload_n hx hb dX6_ranked_16 rfl (lv_at hl 0 rfl) ?_
          refine g6_0 hx hb hts hi6 hown hK hW (k := 14) rfl (hts _ (wm 1 rfl)) dX6_ranked_17 ?_
          refine lv_iload_n hx hb dX6_ranked_20 rfl (lv_at hl 2 rfl) ?_
          obtain ⟨hn21, hr⟩ := chk_e hr
          refine xaald hx hb hK hW (k := 15) (t := 51) rfl (by decide) (by decide) rfl (t0 := 4) rfl hn21 dX6_ranked_21 ?_
          refine g5_0 hx hb hts hi5 hown hK hW (k := (rid 51 15 (ix x2_1))) (ks_51 (k := 15) rfl hn21) (hts _ (wm 2 rfl)) dX6_ranked_22 ?_
          obtain ⟨x3_4, ex3_4, hr⟩ := lt1_e hr
          rw [← ex3_4]
          refine lv_istore_n (lv' := [(3, .int x3_4), (0, .ref (ad 14)), (1, .int x1), (2, .int x2_1)]) hx hb dX6_ranked_25 rfl hl (by decide) rfl (fun ls hl => ?_)
          refine lv_aload_n hx hb dX6_ranked_26 rfl (lv_at hl 1 rfl) ?_
          refine lv_iload_n hx hb dX6_ranked_27 rfl (lv_at hl 0 rfl) ?_
          refine lv_iconst (v := (1 : Int32)) hx hb dX6_ranked_28 (by decide) ?_
          refine lv_isub hx hb dX6_ranked_29 ?_
          obtain ⟨r_5, hc30, hr⟩ := ob1_e hr
          refine xk_i (va_runV (As := [.int (x3_4 - (1 : Int32))]) (rest := []) ⟨hx, hb, hml, hown, hts⟩ (c_X6_countUpTo l D cA ad M (x3_4 - (1 : Int32)) hc30) (cwV 1 hts gX6_ranked_X6_countUpTo rfl rfl rfl (by decide +kernel) ⟨Nat.le_of_ble_eq_true rfl, Nat.le_of_ble_eq_true rfl⟩) (xpreV hK hW (k := 14) rfl (by decide) rfl) rfl rfl hl.1 rfl (lv_room (Nat.le_of_ble_eq_true rfl)) dX6_ranked_30 ⟨Nat.le_of_ble_eq_true rfl, Nat.le_of_ble_eq_true rfl⟩) hW (fun H locs hW => ?_)
          refine lv_iload_n hx hb dX6_ranked_33 rfl (lv_at hl 2 rfl) ?_
          refine lv_icmp_gt (tgt := 48) hx hb dX6_ranked_34 (by decide) (fun c1 => ?_) (fun c1 => ?_)
          · have hr := br_p c1 hr
            obtain ⟨x2_6, ex2_6, hr⟩ := lt1_e hr
            refine lv_iinc (v := x2_6) (lv' := [(2, .int x2_6), (3, .int x3_4), (0, .ref (ad 14)), (1, .int x1)]) hx hb dX6_ranked_48 hl (k := 3) rfl (by rw [ex2_6]; rfl) (by decide) rfl (fun ls hl => ?_)
            refine lv_goto (tgt := 2) hx hb dX6_ranked_51 (by decide) ?_
            exact ih x2_6 _ _ _ hW (lv_sub hl [2, 3, 0] rfl) hr
          · have hr := br_n c1 hr
            refine lv_iload_n hx hb dX6_ranked_37 rfl (lv_at hl 2 rfl) ?_
            refine lv_aload_n hx hb dX6_ranked_38 rfl (lv_at hl 1 rfl) ?_
            refine lv_iload_n hx hb dX6_ranked_39 rfl (lv_at hl 0 rfl) ?_
            obtain ⟨r_7, hc40, hr⟩ := ob1_e hr
            refine xk_i (va_runV (As := [.int x3_4]) (rest := [.int x1]) ⟨hx, hb, hml, hown, hts⟩ (c_X6_countUpTo l D cA ad M x3_4 hc40) (cwV 1 hts gX6_ranked_X6_countUpTo rfl rfl rfl (by decide +kernel) ⟨Nat.le_of_ble_eq_true rfl, Nat.le_of_ble_eq_true rfl⟩) (xpreV hK hW (k := 14) rfl (by decide) rfl) rfl rfl hl.1 rfl (lv_room (Nat.le_of_ble_eq_true rfl)) dX6_ranked_40 ⟨Nat.le_of_ble_eq_true rfl, Nat.le_of_ble_eq_true rfl⟩) hW (fun H locs hW => ?_)
            refine lv_icmp_ge (tgt := 48) hx hb dX6_ranked_43 (by decide) (fun c1 => ?_) (fun c1 => ?_)
            · have hr := br_p c1 hr
              obtain ⟨x2_8, ex2_8, hr⟩ := lt1_e hr
              refine lv_iinc (v := x2_8) (lv' := [(2, .int x2_8), (3, .int x3_4), (0, .ref (ad 14)), (1, .int x1)]) hx hb dX6_ranked_48 hl (k := 3) rfl (by rw [ex2_8]; rfl) (by decide) rfl (fun ls hl => ?_)
              refine lv_goto (tgt := 2) hx hb dX6_ranked_51 (by decide) ?_
              exact ih x2_8 _ _ _ hW (lv_sub hl [2, 3, 0] rfl) hr
            · have hr := br_n c1 hr
              refine lv_iload_n hx hb dX6_ranked_46 rfl (lv_at hl 0 rfl) ?_
              rw [← Option.some.inj hr]
              exact xiret hx hb hr0 hlocks hW adR_rf dX6_ranked_47
  exact hL2_1 1000 (0 : Int32) _ _ _ hW (lv_sub hl [1, 2, 0] rfl) hr

set_option maxHeartbeats 4000000 in
set_option maxRecDepth 100000 in
theorem c_X6_average (l : Launch) (D : va_G) (cA : Nat → ClassId) (ad : Nat → Nat) (M : Mm) {r : Int32} (hr : f_X6_average M = some r) : Met l yX6_average wsX6_average ({ frames := 2, cells := 0, slots := 0, locals := 43 }) (PcX D true cA ad M [.ref (ad 14)]) (QiX false D true cA ad r M) 0 0 (AX true ad) := by
  refine Met.ofW (cc := cX6_average) (maxL := 4) (ret := (some .int)) (by decide) rfl ?_
  intro p e s m args below meth c s₁ B hml hv
  obtain ⟨hav, hP0, hK⟩ := hv
  have hx := B.exec
  have hb := B.bytes
  have hr0 := B.returns
  have hts := atoms_spec (ws := wsX6_average) B.pre
  have hown : s.vm.findClass RX6 = some m.cls := findClass_of_methodNamed B.named
  have hlocks := B.notSynchronized
  have hW := xstart hP0
  have hi5 : ∀ w ∈ wsX50, w ∈ wsX6_average := fun w h => List.mem_cons_of_mem _ (List.mem_append_right _ h)
  have hi6 : ∀ w ∈ wsX60, w ∈ wsX6_average := fun w h => List.mem_cons_of_mem _ (List.mem_append_left _ (List.mem_append_right _ h))
  have hl := lv_entry ([.ref (ad 14)]) (n := 4) (Nat.le_of_ble_eq_true rfl)
  have hef := lg_entry_eq m ([.ref (ad 14)]) 4
  rw [← hav] at hef
  rw [hef]
  clear hef
  generalize (lg_sl ([.ref (ad 14)]) ++ List.replicate (4 - (lg_sl ([.ref (ad 14)])).length) Slot.unset).toArray = ls at hl ⊢
  have hl : lv_has ls 4 [(0, .ref (ad 14))] := hl
  clear hP0
  unfold f_X6_average at hr
  refine lv_lconst (v := (0 : Int64)) hx hb dX6_average_0 (by decide) ?_
  refine lv_lstore_n (lv' := [(1, .long (0 : Int64)), (0, .ref (ad 14))]) hx hb dX6_average_1 rfl hl (by decide) rfl (fun ls hl => ?_)
  refine lv_iconst (v := (0 : Int32)) hx hb dX6_average_2 (by decide) ?_
  refine lv_istore_n (lv' := [(3, .int (0 : Int32)), (1, .long (0 : Int64)), (0, .ref (ad 14))]) hx hb dX6_average_3 rfl hl (by decide) rfl (fun ls hl => ?_)
  have hL4_1 : ∀ (n : Nat) (x1_1 : Int64) (x3_2 : Int32) (H : Heap) (locs : List Loc) (ls : Array Slot) (x1_3 : Int64), Xw D true cA ad M (AX true ad) s.heap H locs → lv_has ls 4 [(0, .ref (ad 14)), (1, .long x1_1), (3, .int x3_2)] → f_X6_average_L4 M n x1_1 x3_2 = some x1_3 → (∀ (H : Heap) (locs : List Loc) (ls : Array Slot), Xw D true cA ad M (AX true ad) s.heap H locs → lv_has ls 4 [(0, .ref (ad 14)), (1, .long x1_3)] → W p l e (headSpec wsX6_average { frames := 2, cells := 0, slots := 0, locals := 43 }).room s m args below meth c H locs 0 0 (MQ below (QiX false D true cA ad r M) args s 0 0 (AX true ad)) (F0 m 37 ls [])) → W p l e (headSpec wsX6_average { frames := 2, cells := 0, slots := 0, locals := 43 }).room s m args below meth c H locs 0 0 (MQ below (QiX false D true cA ad r M) args s 0 0 (AX true ad)) (F0 m 4 ls []) := by
    intro n
    induction n with
    | zero =>
      intro x1_1 x3_2 H locs ls x1_3 hW hl hr hk
      exact absurd hr (by simp [f_X6_average_L4])
    | succ n ih =>
      intro x1_1 x3_2 H locs ls x1_3 hW hl hr hk
      rw [f_X6_average_L4] at hr
      refine lv_iload_n hx hb dX6_average_4 rfl (lv_at hl 2 rfl) ?_
      refine lv_bipush (v := (12 : Int32)) hx hb dX6_average_5 (by decide) ?_
      refine lv_icmp_ge (tgt := 37) hx hb dX6_average_7 (by decide) (fun c1 => ?_) (fun c1 => ?_)
      · have hr := br_p c1 hr
        have e1 := Option.some.inj hr
        subst e1
        exact hk _ _ _ hW (lv_sub hl [0, 1] rfl)
      · have hr := br_n c1 hr
        refine lv_aload_n hx hb dX6_average_10 rfl (lv_at hl 0 rfl) ?_
        refine lv_iload_n hx hb dX6_average_11 rfl (lv_at hl 2 rfl) ?_
        obtain ⟨r_4, hc12, hr⟩ := ob1_e hr
        refine xk_i (va_runV (As := [.int x3_2]) (rest := []) ⟨hx, hb, hml, hown, hts⟩ (c_X6_isMeasured l D cA ad M x3_2 hc12) (cwV 1 hts gX6_average_X6_isMeasured rfl rfl rfl (by decide +kernel) ⟨Nat.le_of_ble_eq_true rfl, Nat.le_of_ble_eq_true rfl⟩) (xpreV hK hW (k := 14) rfl (by decide) rfl) rfl rfl hl.1 rfl (lv_room (Nat.le_of_ble_eq_true rfl)) dX6_average_12 ⟨Nat.le_of_ble_eq_true rfl, Nat.le_of_ble_eq_true rfl⟩) hW (fun H locs hW => ?_)
        obtain ⟨x1_5, hr, hr3⟩ := ob1_e hr
        have hj31_5 : ∀ (H : Heap) (locs : List Loc) (ls : Array Slot), Xw D true cA ad M (AX true ad) s.heap H locs → lv_has ls 4 [(0, .ref (ad 14)), (3, .int x3_2), (1, .long x1_5)] → W p l e (headSpec wsX6_average { frames := 2, cells := 0, slots := 0, locals := 43 }).room s m args below meth c H locs 0 0 (MQ below (QiX false D true cA ad r M) args s 0 0 (AX true ad)) (F0 m 31 ls []) := by
          intro H locs ls hW hl
          have hr := hr3
          obtain ⟨x3_7, ex3_7, hr⟩ := lt1_e hr
          refine lv_iinc (v := x3_7) (lv' := [(3, .int x3_7), (0, .ref (ad 14)), (1, .long x1_5)]) hx hb dX6_average_31 hl (k := 1) rfl (by rw [ex3_7]; rfl) (by decide) rfl (fun ls hl => ?_)
          refine lv_goto (tgt := 4) hx hb dX6_average_34 (by decide) ?_
          exact ih x1_5 x3_7 _ _ _ _ hW (lv_sub hl [1, 2, 0] rfl) hr hk
        clear hr3
        refine lv_if_eq (tgt := 31) hx hb dX6_average_15 (by decide) (fun c1 => ?_) (fun c1 => ?_)
        · have hr := br_p c1 hr
          have e1 := Option.some.inj hr
          subst e1
          exact hj31_5 _ _ _ hW (lv_sub hl [0, 2, 1] rfl)
        · have hr := br_n c1 hr
          refine lv_lload_n hx hb dX6_average_18 rfl (lv_at hl 1 rfl) ?_
          refine lv_aload_n hx hb dX6_average_19 rfl (lv_at hl 0 rfl) ?_
          refine g6_0 hx hb hts hi6 hown hK hW (k := 14) rfl (hts _ (wm 1 rfl)) dX6_average_20 ?_
          refine lv_iload_n hx hb dX6_average_23 rfl (lv_at hl 2 rfl) ?_
          obtain ⟨hn24, hr⟩ := chk_e hr
          refine xaald hx hb hK hW (k := 15) (t := 51) rfl (by decide) (by decide) rfl (t0 := 4) rfl hn24 dX6_average_24 ?_
          refine g5_0 hx hb hts hi5 hown hK hW (k := (rid 51 15 (ix x3_2))) (ks_51 (k := 15) rfl hn24) (hts _ (wm 2 rfl)) dX6_average_25 ?_
          refine lv_i2l hx hb dX6_average_28 rfl ?_
          refine lv_ladd hx hb dX6_average_29 ?_
          obtain ⟨x1_6, ex1_6, hr⟩ := lt1_e hr
          rw [← ex1_6]
          refine lv_lstore_n (lv' := [(1, .long x1_6), (0, .ref (ad 14)), (3, .int x3_2)]) hx hb dX6_average_30 rfl hl (by decide) rfl (fun ls hl => ?_)
          have e1 := Option.some.inj hr
          subst e1
          exact hj31_5 _ _ _ hW (lv_sub hl [1, 2, 0] rfl)
  obtain ⟨x1_3, hr, hr3⟩ := ob1_e hr
  refine hL4_1 1000 (0 : Int64) (0 : Int32) _ _ _ x1_3 hW (lv_sub hl [2, 1, 0] rfl) hr (fun H locs ls hW hl => ?_)
  clear hr
  have hr := hr3
  refine lv_lload_n hx hb dX6_average_37 rfl (lv_at hl 1 rfl) ?_
  refine lv_aload_n hx hb dX6_average_38 rfl (lv_at hl 0 rfl) ?_
  obtain ⟨r_8, hc39, hr⟩ := ob1_e hr
  refine xk_i (va_runV (As := []) (rest := [.long x1_3]) ⟨hx, hb, hml, hown, hts⟩ (c_X6_measuredCount l D cA ad M hc39) (cwV 0 hts gX6_average_X6_measuredCount rfl rfl rfl (by decide +kernel) ⟨Nat.le_of_ble_eq_true rfl, Nat.le_of_ble_eq_true rfl⟩) (xpreV hK hW (k := 14) rfl (by decide) rfl) rfl rfl hl.1 rfl (lv_room (Nat.le_of_ble_eq_true rfl)) dX6_average_39 ⟨Nat.le_of_ble_eq_true rfl, Nat.le_of_ble_eq_true rfl⟩) hW (fun H locs hW => ?_)
  refine lv_i2l hx hb dX6_average_42 rfl ?_
  obtain ⟨r_9, hc43, hr⟩ := ob1_e hr
  refine xk_l (va_runSN (As := [.long x1_3, .long (Int32.toInt64 r_8)]) (rest := []) ⟨hx, hb, hml, hown, hts⟩ (c_X10_quotient l D cA ad M x1_3 (Int32.toInt64 r_8) hc43) ⟨va_cnB 2 hts gX6_average_X10_quotient_n52 rfl rfl rfl hK.2.2.2.2.2.2.2.2.2.2.2.2.2.2.2.2.2.2.2.2.2 (hts _ (wm 15 rfl)) (by decide +kernel) ⟨Nat.le_of_ble_eq_true rfl, Nat.le_of_ble_eq_true rfl⟩, (hts _ (wm 17 rfl)), trivial⟩ (xpreS hK hW) rfl rfl hl.1 rfl (lv_room (Nat.le_of_ble_eq_true rfl)) dX6_average_43 ⟨Nat.le_of_ble_eq_true rfl, Nat.le_of_ble_eq_true rfl⟩) hW (fun H locs hW => ?_)
  refine lv_l2i hx hb dX6_average_46 rfl ?_
  rw [← Option.some.inj hr]
  exact xiret hx hb hr0 hlocks hW adR_rf dX6_average_47

set_option maxHeartbeats 4000000 in
set_option maxRecDepth 100000 in
theorem c_X8_pathAt (l : Launch) (D : va_G) (cA : Nat → ClassId) (ad : Nat → Nat) (M : Mm) (x1 : Int32) {r : Option Nat} (hr : f_X8_pathAt x1 M = some r) : Met l yX8_pathAt wsX8_pathAt ({ frames := 0, cells := 0, slots := 0, locals := 0 }) (PcX D true cA ad M [.ref (ad 0), .int x1]) (QqX false D true cA ad r M) 0 0 (AX true ad) := by
  refine Met.ofW (cc := cX8_pathAt) (maxL := 2) (ret := (some (.object "TransitMeter$Path"))) (by decide) rfl ?_
  intro p e s m args below meth c s₁ B hml hv
  obtain ⟨hav, hP0, hK⟩ := hv
  have hx := B.exec
  have hb := B.bytes
  have hr0 := B.returns
  have hts := atoms_spec (ws := wsX8_pathAt) B.pre
  have hown : s.vm.findClass RX8 = some m.cls := findClass_of_methodNamed B.named
  have hlocks := B.notSynchronized
  have hW := xstart hP0
  have hi8 : ∀ w ∈ wsX80, w ∈ wsX8_pathAt := fun w h => List.mem_cons_of_mem _ (List.mem_append_right _ h)
  have hl := lv_entry ([.ref (ad 0), .int x1]) (n := 2) (Nat.le_of_ble_eq_true rfl)
  have hef := lg_entry_eq m ([.ref (ad 0), .int x1]) 2
  rw [← hav] at hef
  rw [hef]
  clear hef
  generalize (lg_sl ([.ref (ad 0), .int x1]) ++ List.replicate (2 - (lg_sl ([.ref (ad 0), .int x1])).length) Slot.unset).toArray = ls at hl ⊢
  have hl : lv_has ls 2 [(0, .ref (ad 0)), (1, .int x1)] := hl
  clear hP0
  unfold f_X8_pathAt at hr
  refine lv_iload_n hx hb dX8_pathAt_0 rfl (lv_at hl 1 rfl) ?_
  refine lv_if_lt (tgt := 26) hx hb dX8_pathAt_1 (by decide) (fun c1 => ?_) (fun c1 => ?_)
  · have hr := br_p c1 hr
    refine lv_null hx hb dX8_pathAt_26 ?_
    rw [← Option.some.inj hr]
    exact xaretN hx hb hr0 hlocks hW adR_rf dX8_pathAt_27
  · have hr := br_n c1 hr
    refine lv_iload_n hx hb dX8_pathAt_4 rfl (lv_at hl 1 rfl) ?_
    refine lv_aload_n hx hb dX8_pathAt_5 rfl (lv_at hl 0 rfl) ?_
    refine g8_1 hx hb hts hi8 hown hK hW (k := 0) rfl (hts _ (wm 1 rfl)) dX8_pathAt_6 ?_
    refine lv_icmp_ge (tgt := 26) hx hb dX8_pathAt_9 (by decide) (fun c1 => ?_) (fun c1 => ?_)
    · have hr := br_p c1 hr
      refine lv_null hx hb dX8_pathAt_26 ?_
      rw [← Option.some.inj hr]
      exact xaretN hx hb hr0 hlocks hW adR_rf dX8_pathAt_27
    · have hr := br_n c1 hr
      refine lv_iload_n hx hb dX8_pathAt_12 rfl (lv_at hl 1 rfl) ?_
      refine lv_iconst (v := (4 : Int32)) hx hb dX8_pathAt_13 (by decide) ?_
      refine lv_icmp_ge (tgt := 26) hx hb dX8_pathAt_14 (by decide) (fun c1 => ?_) (fun c1 => ?_)
      · have hr := br_p c1 hr
        refine lv_null hx hb dX8_pathAt_26 ?_
        rw [← Option.some.inj hr]
        exact xaretN hx hb hr0 hlocks hW adR_rf dX8_pathAt_27
      · have hr := br_n c1 hr
        refine lv_aload_n hx hb dX8_pathAt_17 rfl (lv_at hl 0 rfl) ?_
        refine g8_0 hx hb hts hi8 hown hK hW (k := 0) rfl (hts _ (wm 2 rfl)) dX8_pathAt_18 ?_
        refine lv_iload_n hx hb dX8_pathAt_21 rfl (lv_at hl 1 rfl) ?_
        obtain ⟨hn22, hr⟩ := chk_e hr
        refine xaald hx hb hK hW (k := 1) (t := 50) rfl (by decide) (by decide) rfl (t0 := 3) rfl hn22 dX8_pathAt_22 ?_
        refine lv_goto (tgt := 27) hx hb dX8_pathAt_23 (by decide) ?_
        rw [← Option.some.inj hr]
        exact xaret hx hb hr0 hlocks hW adR_rf dX8_pathAt_27

set_option maxHeartbeats 4000000 in
set_option maxRecDepth 100000 in
theorem c_X8_tellShot (l : Launch) (D : va_G) (cA : Nat → ClassId) (ad : Nat → Nat) (M : Mm) (x1 : Int32) (x2 : Int32) (x3 : Int32) (x4 : Int32) {M' : Mm} (hr : f_X8_tellShot x1 x2 x3 x4 M = some M') : Met l yX8_tellShot wsX8_tellShot ({ frames := 1, cells := 0, slots := 0, locals := 21 }) (PcX D true cA ad M [.ref (ad 0), .int x1, .int x2, .int x3, .int x4]) (QvX false D true cA ad M') 0 0 (AX true ad) := by
  refine Met.ofW (cc := cX8_tellShot) (maxL := 7) (ret := none) (by decide) rfl ?_
  intro p e s m args below meth c s₁ B hml hv
  obtain ⟨hav, hP0, hK⟩ := hv
  have hx := B.exec
  have hb := B.bytes
  have hr0 := B.returns
  have hts := atoms_spec (ws := wsX8_tellShot) B.pre
  have hown : s.vm.findClass RX8 = some m.cls := findClass_of_methodNamed B.named
  have hlocks := B.notSynchronized
  have hW := xstart hP0
  have hi3 : ∀ w ∈ wsX30, w ∈ wsX8_tellShot := fun w h => List.mem_cons_of_mem _ (List.mem_append_left _ (List.mem_append_left _ (List.mem_append_right _ h)))
  have hi7 : ∀ w ∈ wsX70, w ∈ wsX8_tellShot := fun w h => List.mem_cons_of_mem _ (List.mem_append_left _ (List.mem_append_right _ h))
  have hi8 : ∀ w ∈ wsX80, w ∈ wsX8_tellShot := fun w h => List.mem_cons_of_mem _ (List.mem_append_right _ h)
  have hl := lv_entry ([.ref (ad 0), .int x1, .int x2, .int x3, .int x4]) (n := 7) (Nat.le_of_ble_eq_true rfl)
  have hef := lg_entry_eq m ([.ref (ad 0), .int x1, .int x2, .int x3, .int x4]) 7
  rw [← hav] at hef
  rw [hef]
  clear hef
  generalize (lg_sl ([.ref (ad 0), .int x1, .int x2, .int x3, .int x4]) ++ List.replicate (7 - (lg_sl ([.ref (ad 0), .int x1, .int x2, .int x3, .int x4])).length) Slot.unset).toArray = ls at hl ⊢
  have hl : lv_has ls 7 [(0, .ref (ad 0)), (1, .int x1), (2, .int x2), (3, .int x3), (4, .int x4)] := hl
  clear hP0
  unfold f_X8_tellShot at hr
  refine lv_aload_n hx hb dX8_tellShot_0 rfl (lv_at hl 0 rfl) ?_
  refine lv_iload_n hx hb dX8_tellShot_1 rfl (lv_at hl 1 rfl) ?_
  obtain ⟨r_1, hc2, hr⟩ := ob1_e hr
  refine xk_q (va_runV (As := [.int x1]) (rest := []) ⟨hx, hb, hml, hown, hts⟩ (c_X8_pathAt l D cA ad M x1 hc2) (cwV 1 hts gX8_tellShot_X8_pathAt rfl rfl rfl (by decide +kernel) ⟨Nat.le_of_ble_eq_true rfl, Nat.le_of_ble_eq_true rfl⟩) (xpreV hK hW (k := 0) rfl (by decide) rfl) rfl rfl hl.1 rfl (lv_room (Nat.le_of_ble_eq_true rfl)) dX8_tellShot_2 ⟨Nat.le_of_ble_eq_true rfl, Nat.le_of_ble_eq_true rfl⟩) hW (fun H locs hW => ?_)
  cases r_1 with
  | none =>
    have hr : _ = _ := hr
    simp only [onl] at hr
    refine lv_astoreN (lv' := [(5, .null), (0, .ref (ad 0)), (1, .int x1), (2, .int x2), (3, .int x3), (4, .int x4)]) hx hb dX8_tellShot_5 hl (by decide) rfl (fun ls hl => ?_)
    refine lv_aloadN hx hb dX8_tellShot_7 (lv_at hl 0 rfl) ?_
    refine lv_ifnonnullN hx hb dX8_tellShot_9 ?_
    rw [← Option.some.inj hr]
    exact xvret hx hb hr0 hlocks hW adR_rf dX8_tellShot_12
  | some k_2 =>
    simp only [onl] at hr
    obtain ⟨hk2, hr⟩ := chk_e hr
    have hk2 := of_decide_eq_true hk2
    refine lv_astore (lv' := [(5, .ref (ad k_2)), (0, .ref (ad 0)), (1, .int x1), (2, .int x2), (3, .int x3), (4, .int x4)]) hx hb dX8_tellShot_5 hl (by decide) rfl (fun ls hl => ?_)
    refine lv_aload hx hb dX8_tellShot_7 (lv_at hl 0 rfl) ?_
    refine lv_ifnonnull (tgt := 13) hx hb dX8_tellShot_9 (by decide) ?_
    refine lv_aload hx hb dX8_tellShot_13 (lv_at hl 0 rfl) ?_
    refine g3_15 hx hb hts hi3 hown hK hW (k := k_2) hk2 (hts _ (wm 1 rfl)) dX8_tellShot_15 ?_
    refine lv_astore (lv' := [(6, .ref (ad (k_2 + 1))), (5, .ref (ad k_2)), (0, .ref (ad 0)), (1, .int x1), (2, .int x2), (3, .int x3), (4, .int x4)]) hx hb dX8_tellShot_18 hl (by decide) rfl (fun ls hl => ?_)
    refine lv_aload hx hb dX8_tellShot_20 (lv_at hl 0 rfl) ?_
    refine lv_iconst (v := (1 : Int32)) hx hb dX8_tellShot_22 (by decide) ?_
    obtain ⟨M_3, eM_3, hr⟩ := lt1_e hr
    refine p7_0 hx hb hts hi7 hown hK hW (k := (k_2 + 1)) (ks_3s hk2) (hts _ (wm 2 rfl)) (by decide) dX8_tellShot_23 (fun H locs hW => ?_)
    rw [← eM_3] at hW
    refine lv_aload hx hb dX8_tellShot_26 (lv_at hl 0 rfl) ?_
    refine lv_aload_n hx hb dX8_tellShot_28 rfl (lv_at hl 2 rfl) ?_
    refine g8_4 hx hb hts hi8 hown hK hW (k := 0) rfl (hts _ (wm 3 rfl)) dX8_tellShot_29 ?_
    obtain ⟨y_4, hr, hr3⟩ := ob1_e hr
    have hj40_4 : ∀ (H : Heap) (locs : List Loc) (ls : Array Slot), Xw D true cA ad M_3 (AX true ad) s.heap H locs → lv_has ls 7 [(6, .ref (ad (k_2 + 1))), (0, .ref (ad 0)), (2, .int x2), (3, .int x3), (4, .int x4)] → W p l e (headSpec wsX8_tellShot { frames := 1, cells := 0, slots := 0, locals := 21 }).room s m args below meth c H locs 0 0 (MQ below (QvX false D true cA ad M') args s 0 0 (AX true ad)) (F0 m 40 ls [.int y_4, .ref (ad (k_2 + 1))]) := by
      intro H locs ls hW hl
      have hr := hr3
      obtain ⟨M_5, eM_5, hr⟩ := lt1_e hr
      refine p7_1 hx hb hts hi7 hown hK hW (k := (k_2 + 1)) (ks_3s hk2) (hts _ (wm 4 rfl)) dX8_tellShot_40 (fun H locs hW => ?_)
      rw [← eM_5] at hW
      refine lv_aload hx hb dX8_tellShot_43 (lv_at hl 0 rfl) ?_
      refine lv_aload_n hx hb dX8_tellShot_45 rfl (lv_at hl 1 rfl) ?_
      refine g8_4 hx hb hts hi8 hown hK hW (k := 0) rfl (hts _ (wm 3 rfl)) dX8_tellShot_46 ?_
      obtain ⟨y_6, hr, hr3⟩ := ob1_e hr
      have hj57_6 : ∀ (H : Heap) (locs : List Loc) (ls : Array Slot), Xw D true cA ad M_5 (AX true ad) s.heap H locs → lv_has ls 7 [(6, .ref (ad (k_2 + 1))), (4, .int x4)] → W p l e (headSpec wsX8_tellShot { frames := 1, cells := 0, slots := 0, locals := 21 }).room s m args below meth c H locs 0 0 (MQ below (QvX false D true cA ad M') args s 0 0 (AX true ad)) (F0 m 57 ls [.int y_6, .ref (ad (k_2 + 1))]) := by
        intro H locs ls hW hl
        have hr := hr3
        obtain ⟨M_7, eM_7, hr⟩ := lt1_e hr
        refine p7_2 hx hb hts hi7 hown hK hW (k := (k_2 + 1)) (ks_3s hk2) (hts _ (wm 5 rfl)) dX8_tellShot_57 (fun H locs hW => ?_)
        rw [← eM_7] at hW
        refine lv_aload hx hb dX8_tellShot_60 (lv_at hl 0 rfl) ?_
        refine lv_iload hx hb dX8_tellShot_62 (lv_at hl 1 rfl) ?_
        obtain ⟨M_8, eM_8, hr⟩ := lt1_e hr
        refine p7_3 hx hb hts hi7 hown hK hW (k := (k_2 + 1)) (ks_3s hk2) (hts _ (wm 6 rfl)) dX8_tellShot_64 (fun H locs hW => ?_)
        rw [← eM_8] at hW
        rw [← Option.some.inj hr]
        exact xvret hx hb hr0 hlocks hW adR_rf dX8_tellShot_67
      clear hr3
      refine lv_if_eq (tgt := 56) hx hb dX8_tellShot_49 (by decide) (fun c1 => ?_) (fun c1 => ?_)
      · have hr := br_p c1 hr
        refine lv_iload_n hx hb dX8_tellShot_56 rfl (lv_at hl 3 rfl) ?_
        have e1 := Option.some.inj hr
        subst e1
        exact hj57_6 _ _ _ hW (lv_sub hl [0, 4] rfl)
      · have hr := br_n c1 hr
        refine lv_iload_n hx hb dX8_tellShot_52 rfl (lv_at hl 2 rfl) ?_
        refine lv_goto (tgt := 57) hx hb dX8_tellShot_53 (by decide) ?_
        have e1 := Option.some.inj hr
        subst e1
        exact hj57_6 _ _ _ hW (lv_sub hl [0, 4] rfl)
    clear hr3
    refine lv_if_eq (tgt := 39) hx hb dX8_tellShot_32 (by decide) (fun c1 => ?_) (fun c1 => ?_)
    · have hr := br_p c1 hr
      refine lv_iload_n hx hb dX8_tellShot_39 rfl (lv_at hl 4 rfl) ?_
      have e1 := Option.some.inj hr
      subst e1
      exact hj40_4 _ _ _ hW (lv_sub hl [0, 2, 4, 5, 6] rfl)
    · have hr := br_n c1 hr
      refine lv_iload_n hx hb dX8_tellShot_35 rfl (lv_at hl 5 rfl) ?_
      refine lv_goto (tgt := 40) hx hb dX8_tellShot_36 (by decide) ?_
      have e1 := Option.some.inj hr
      subst e1
      exact hj40_4 _ _ _ hW (lv_sub hl [0, 2, 4, 5, 6] rfl)

set_option maxHeartbeats 4000000 in
set_option maxRecDepth 100000 in
theorem c_X8_exchangeTimes (l : Launch) (D : va_G) (cA : Nat → ClassId) (ad : Nat → Nat) (M : Mm) {M' : Mm} (hr : f_X8_exchangeTimes M = some M') : Met l yX8_exchangeTimes wsX8_exchangeTimes ({ frames := 2, cells := 0, slots := 0, locals := 42 }) (PcX D true cA ad M [.ref (ad 0)]) (QvX false D true cA ad M') 0 0 (AX true ad) := by
  refine Met.ofW (cc := cX8_exchangeTimes) (maxL := 5) (ret := none) (by decide) rfl ?_
  intro p e s m args below meth c s₁ B hml hv
  obtain ⟨hav, hP0, hK⟩ := hv
  have hx := B.exec
  have hb := B.bytes
  have hr0 := B.returns
  have hts := atoms_spec (ws := wsX8_exchangeTimes) B.pre
  have hown : s.vm.findClass RX8 = some m.cls := findClass_of_methodNamed B.named
  have hlocks := B.notSynchronized
  have hW := xstart hP0
  have hi8 : ∀ w ∈ wsX80, w ∈ wsX8_exchangeTimes := fun w h => List.mem_cons_of_mem _ (List.mem_append_left _ (List.mem_append_left _ (List.mem_append_right _ h)))
  have hl := lv_entry ([.ref (ad 0)]) (n := 5) (Nat.le_of_ble_eq_true rfl)
  have hef := lg_entry_eq m ([.ref (ad 0)]) 5
  rw [← hav] at hef
  rw [hef]
  clear hef
  generalize (lg_sl ([.ref (ad 0)]) ++ List.replicate (5 - (lg_sl ([.ref (ad 0)])).length) Slot.unset).toArray = ls at hl ⊢
  have hl : lv_has ls 5 [(0, .ref (ad 0))] := hl
  clear hP0
  unfold f_X8_exchangeTimes at hr
  refine lv_aload_n hx hb dX8_exchangeTimes_0 rfl (lv_at hl 0 rfl) ?_
  refine g8_0 hx hb hts hi8 hown hK hW (k := 0) rfl (hts _ (wm 1 rfl)) dX8_exchangeTimes_1 ?_
  refine lv_astore_n (lv' := [(1, .ref (ad 1)), (0, .ref (ad 0))]) hx hb dX8_exchangeTimes_4 rfl hl (by decide) rfl (fun ls hl => ?_)
  refine lv_aload_n hx hb dX8_exchangeTimes_5 rfl (lv_at hl 0 rfl) ?_
  refine xalen hx hb hK hW (k := 1) (t := 50) rfl (by decide) (by decide) (v := (4 : Int32)) rfl dX8_exchangeTimes_6 ?_
  refine lv_istore_n (lv' := [(2, .int (4 : Int32)), (1, .ref (ad 1)), (0, .ref (ad 0))]) hx hb dX8_exchangeTimes_7 rfl hl (by decide) rfl (fun ls hl => ?_)
  refine lv_iconst (v := (0 : Int32)) hx hb dX8_exchangeTimes_8 (by decide) ?_
  refine lv_istore_n (lv' := [(3, .int (0 : Int32)), (2, .int (4 : Int32)), (1, .ref (ad 1)), (0, .ref (ad 0))]) hx hb dX8_exchangeTimes_9 rfl hl (by decide) rfl (fun ls hl => ?_)
  have hL10_1 : ∀ (n : Nat) (x3_1 : Int32) (M_2 : Mm) (H : Heap) (locs : List Loc) (ls : Array Slot), Xw D true cA ad M_2 (AX true ad) s.heap H locs → lv_has ls 5 [(2, .int (4 : Int32)), (1, .ref (ad 1)), (3, .int x3_1)] → f_X8_exchangeTimes_L10 n x3_1 M_2 = some M' → W p l e (headSpec wsX8_exchangeTimes { frames := 2, cells := 0, slots := 0, locals := 42 }).room s m args below meth c H locs 0 0 (MQ below (QvX false D true cA ad M') args s 0 0 (AX true ad)) (F0 m 10 ls []) := by
    intro n
    induction n with
    | zero =>
      intro x3_1 M_2 H locs ls hW hl hr
      exact absurd hr (by simp [f_X8_exchangeTimes_L10])
    | succ n ih =>
      intro x3_1 M_2 H locs ls hW hl hr
      rw [f_X8_exchangeTimes_L10] at hr
      refine lv_iload_n hx hb dX8_exchangeTimes_10 rfl (lv_at hl 2 rfl) ?_
      refine lv_iload_n hx hb dX8_exchangeTimes_11 rfl (lv_at hl 0 rfl) ?_
      refine lv_icmp_ge (tgt := 31) hx hb dX8_exchangeTimes_12 (by decide) (fun c1 => ?_) (fun c1 => ?_)
      · have hr := br_p c1 hr
        rw [← Option.some.inj hr]
        exact xvret hx hb hr0 hlocks hW adR_rf dX8_exchangeTimes_31
      · have hr := br_n c1 hr
        refine lv_aload_n hx hb dX8_exchangeTimes_15 rfl (lv_at hl 1 rfl) ?_
        refine lv_iload_n hx hb dX8_exchangeTimes_16 rfl (lv_at hl 2 rfl) ?_
        obtain ⟨hn17, hr⟩ := chk_e hr
        refine xaald hx hb hK hW (k := 1) (t := 50) rfl (by decide) (by decide) rfl (t0 := 3) rfl hn17 dX8_exchangeTimes_17 ?_
        refine lv_astore (lv' := [(4, .ref (ad (rid 50 1 (ix x3_1)))), (2, .int (4 : Int32)), (1, .ref (ad 1)), (3, .int x3_1)]) hx hb dX8_exchangeTimes_18 hl (by decide) rfl (fun ls hl => ?_)
        refine lv_aload hx hb dX8_exchangeTimes_20 (lv_at hl 0 rfl) ?_
        obtain ⟨M_3, hc22, hr⟩ := ob1_e hr
        refine xk_v (va_runV (As := []) (rest := []) ⟨hx, hb, hml, hown, hts⟩ (c_X3_exchangeTimes l D cA ad M_2 (rid 50 1 (ix x3_1)) (ks_50 (k := 1) rfl hn17) hc22) (cwV 0 hts gX8_exchangeTimes_X3_exchangeTimes rfl rfl rfl (by decide +kernel) ⟨Nat.le_of_ble_eq_true rfl, Nat.le_of_ble_eq_true rfl⟩) (xpreV hK hW (k := (rid 50 1 (ix x3_1))) (ks_50 (k := 1) rfl hn17) (by decide) rfl) rfl rfl hl.1 rfl (lv_room (Nat.le_of_ble_eq_true rfl)) dX8_exchangeTimes_22 ⟨Nat.le_of_ble_eq_true rfl, Nat.le_of_ble_eq_true rfl⟩) hW (fun H locs hW => ?_)
        obtain ⟨x3_4, ex3_4, hr⟩ := lt1_e hr
        refine lv_iinc (v := x3_4) (lv' := [(3, .int x3_4), (4, .ref (ad (rid 50 1 (ix x3_1)))), (2, .int (4 : Int32)), (1, .ref (ad 1))]) hx hb dX8_exchangeTimes_25 hl (k := 3) rfl (by rw [ex3_4]; rfl) (by decide) rfl (fun ls hl => ?_)
        refine lv_goto (tgt := 10) hx hb dX8_exchangeTimes_28 (by decide) ?_
        exact ih x3_4 M_3 _ _ _ hW (lv_sub hl [2, 3, 0] rfl) hr
  exact hL10_1 1000 (0 : Int32) M _ _ _ hW (lv_sub hl [1, 2, 0] rfl) hr

set_option maxHeartbeats 4000000 in
set_option maxRecDepth 100000 in
theorem c_X8_toldShots (l : Launch) (D : va_G) (cA : Nat → ClassId) (ad : Nat → Nat) (M : Mm) {r : Int32} (hr : f_X8_toldShots M = some r) : Met l yX8_toldShots wsX8_toldShots ({ frames := 1, cells := 0, slots := 0, locals := 20 }) (PcX D true cA ad M [.ref (ad 0)]) (QiX false D true cA ad r M) 0 0 (AX true ad) := by
  refine Met.ofW (cc := cX8_toldShots) (maxL := 6) (ret := (some .int)) (by decide) rfl ?_
  intro p e s m args below meth c s₁ B hml hv
  obtain ⟨hav, hP0, hK⟩ := hv
  have hx := B.exec
  have hb := B.bytes
  have hr0 := B.returns
  have hts := atoms_spec (ws := wsX8_toldShots) B.pre
  have hown : s.vm.findClass RX8 = some m.cls := findClass_of_methodNamed B.named
  have hlocks := B.notSynchronized
  have hW := xstart hP0
  have hi3 : ∀ w ∈ wsX30, w ∈ wsX8_toldShots := fun w h => List.mem_cons_of_mem _ (List.mem_append_left _ (List.mem_append_right _ h))
  have hi7 : ∀ w ∈ wsX70, w ∈ wsX8_toldShots := fun w h => List.mem_cons_of_mem _ (List.mem_append_right _ h)
  have hi8 : ∀ w ∈ wsX80, w ∈ wsX8_toldShots := fun w h => List.mem_cons_of_mem _ (List.mem_append_left _ (List.mem_append_left _ (List.mem_append_right _ h)))
  have hl := lv_entry ([.ref (ad 0)]) (n := 6) (Nat.le_of_ble_eq_true rfl)
  have hef := lg_entry_eq m ([.ref (ad 0)]) 6
  rw [← hav] at hef
  rw [hef]
  clear hef
  generalize (lg_sl ([.ref (ad 0)]) ++ List.replicate (6 - (lg_sl ([.ref (ad 0)])).length) Slot.unset).toArray = ls at hl ⊢
  have hl : lv_has ls 6 [(0, .ref (ad 0))] := hl
  clear hP0
  unfold f_X8_toldShots at hr
  refine lv_iconst (v := (0 : Int32)) hx hb dX8_toldShots_0 (by decide) ?_
  refine lv_istore_n (lv' := [(1, .int (0 : Int32)), (0, .ref (ad 0))]) hx hb dX8_toldShots_1 rfl hl (by decide) rfl (fun ls hl => ?_)
  refine lv_aload_n hx hb dX8_toldShots_2 rfl (lv_at hl 1 rfl) ?_
  refine g8_0 hx hb hts hi8 hown hK hW (k := 0) rfl (hts _ (wm 1 rfl)) dX8_toldShots_3 ?_
  refine lv_astore_n (lv' := [(2, .ref (ad 1)), (1, .int (0 : Int32)), (0, .ref (ad 0))]) hx hb dX8_toldShots_6 rfl hl (by decide) rfl (fun ls hl => ?_)
  refine lv_aload_n hx hb dX8_toldShots_7 rfl (lv_at hl 0 rfl) ?_
  refine xalen hx hb hK hW (k := 1) (t := 50) rfl (by decide) (by decide) (v := (4 : Int32)) rfl dX8_toldShots_8 ?_
  refine lv_istore_n (lv' := [(3, .int (4 : Int32)), (2, .ref (ad 1)), (1, .int (0 : Int32)), (0, .ref (ad 0))]) hx hb dX8_toldShots_9 rfl hl (by decide) rfl (fun ls hl => ?_)
  refine lv_iconst (v := (0 : Int32)) hx hb dX8_toldShots_10 (by decide) ?_
  refine lv_istore (lv' := [(4, .int (0 : Int32)), (3, .int (4 : Int32)), (2, .ref (ad 1)), (1, .int (0 : Int32)), (0, .ref (ad 0))]) hx hb dX8_toldShots_11 hl (by decide) rfl (fun ls hl => ?_)
  have hL13_1 : ∀ (n : Nat) (x1_1 : Int32) (x4_2 : Int32) (H : Heap) (locs : List Loc) (ls : Array Slot) (x1_3 : Int32), Xw D true cA ad M (AX true ad) s.heap H locs → lv_has ls 6 [(3, .int (4 : Int32)), (2, .ref (ad 1)), (1, .int x1_1), (4, .int x4_2)] → f_X8_toldShots_L13 M n x1_1 x4_2 = some x1_3 → (∀ (H : Heap) (locs : List Loc) (ls : Array Slot), Xw D true cA ad M (AX true ad) s.heap H locs → lv_has ls 6 [(1, .int x1_3)] → W p l e (headSpec wsX8_toldShots { frames := 1, cells := 0, slots := 0, locals := 20 }).room s m args below meth c H locs 0 0 (MQ below (QiX false D true cA ad r M) args s 0 0 (AX true ad)) (F0 m 45 ls [])) → W p l e (headSpec wsX8_toldShots { frames := 1, cells := 0, slots := 0, locals := 20 }).room s m args below meth c H locs 0 0 (MQ below (QiX false D true cA ad r M) args s 0 0 (AX true ad)) (F0 m 13 ls []) := by
    intro n
    induction n with
    | zero =>
      intro x1_1 x4_2 H locs ls x1_3 hW hl hr hk
      exact absurd hr (by simp [f_X8_toldShots_L13])
    | succ n ih =>
      intro x1_1 x4_2 H locs ls x1_3 hW hl hr hk
      rw [f_X8_toldShots_L13] at hr
      refine lv_iload hx hb dX8_toldShots_13 (lv_at hl 3 rfl) ?_
      refine lv_iload_n hx hb dX8_toldShots_15 rfl (lv_at hl 0 rfl) ?_
      refine lv_icmp_ge (tgt := 45) hx hb dX8_toldShots_16 (by decide) (fun c1 => ?_) (fun c1 => ?_)
      · have hr := br_p c1 hr
        have e1 := Option.some.inj hr
        subst e1
        exact hk _ _ _ hW (lv_sub hl [2] rfl)
      · have hr := br_n c1 hr
        refine lv_aload_n hx hb dX8_toldShots_19 rfl (lv_at hl 1 rfl) ?_
        refine lv_iload hx hb dX8_toldShots_20 (lv_at hl 3 rfl) ?_
        obtain ⟨hn22, hr⟩ := chk_e hr
        refine xaald hx hb hK hW (k := 1) (t := 50) rfl (by decide) (by decide) rfl (t0 := 3) rfl hn22 dX8_toldShots_22 ?_
        refine lv_astore (lv' := [(5, .ref (ad (rid 50 1 (ix x4_2)))), (3, .int (4 : Int32)), (2, .ref (ad 1)), (1, .int x1_1), (4, .int x4_2)]) hx hb dX8_toldShots_23 hl (by decide) rfl (fun ls hl => ?_)
        refine lv_iload_n hx hb dX8_toldShots_25 rfl (lv_at hl 3 rfl) ?_
        refine lv_aload hx hb dX8_toldShots_26 (lv_at hl 0 rfl) ?_
        refine g3_15 hx hb hts hi3 hown hK hW (k := (rid 50 1 (ix x4_2))) (ks_50 (k := 1) rfl hn22) (hts _ (wm 2 rfl)) dX8_toldShots_28 ?_
        refine g7_0 hx hb hts hi7 hown hK hW (k := ((rid 50 1 (ix x4_2)) + 1)) (ks_3s (ks_50 (k := 1) rfl hn22)) (hts _ (wm 3 rfl)) dX8_toldShots_31 ?_
        obtain ⟨r_4, hc34, hr⟩ := ob1_e hr
        refine xk_i (va_runSN (As := [.int (gI M ((rid 50 1 (ix x4_2)) + 1) 0)]) (rest := [.int x1_1]) ⟨hx, hb, hml, hown, hts⟩ (c_X10_asNumber l D cA ad M (gI M ((rid 50 1 (ix x4_2)) + 1) 0) hc34) ⟨va_cnB 1 hts gX8_toldShots_X10_asNumber_n98 rfl rfl rfl hK.2.2.2.2.2.2.2.2.2.1 (hts _ (wm 5 rfl)) (by decide +kernel) ⟨Nat.le_of_ble_eq_true rfl, Nat.le_of_ble_eq_true rfl⟩, (hts _ (wm 4 rfl)), trivial⟩ (xpreS hK hW) rfl rfl hl.1 rfl (lv_room (Nat.le_of_ble_eq_true rfl)) dX8_toldShots_34 ⟨Nat.le_of_ble_eq_true rfl, Nat.le_of_ble_eq_true rfl⟩) hW (fun H locs hW => ?_)
        refine lv_iadd hx hb dX8_toldShots_37 ?_
        obtain ⟨x1_5, ex1_5, hr⟩ := lt1_e hr
        rw [← ex1_5]
        refine lv_istore_n (lv' := [(1, .int x1_5), (5, .ref (ad (rid 50 1 (ix x4_2)))), (3, .int (4 : Int32)), (2, .ref (ad 1)), (4, .int x4_2)]) hx hb dX8_toldShots_38 rfl hl (by decide) rfl (fun ls hl => ?_)
        obtain ⟨x4_6, ex4_6, hr⟩ := lt1_e hr
        refine lv_iinc (v := x4_6) (lv' := [(4, .int x4_6), (1, .int x1_5), (5, .ref (ad (rid 50 1 (ix x4_2)))), (3, .int (4 : Int32)), (2, .ref (ad 1))]) hx hb dX8_toldShots_39 hl (k := 4) rfl (by rw [ex4_6]; rfl) (by decide) rfl (fun ls hl => ?_)
        refine lv_goto (tgt := 13) hx hb dX8_toldShots_42 (by decide) ?_
        exact ih x1_5 x4_6 _ _ _ _ hW (lv_sub hl [3, 4, 1, 0] rfl) hr hk
  obtain ⟨x1_3, hr, hr3⟩ := ob1_e hr
  refine hL13_1 1000 (0 : Int32) (0 : Int32) _ _ _ x1_3 hW (lv_sub hl [1, 2, 3, 0] rfl) hr (fun H locs ls hW hl => ?_)
  clear hr
  have hr := hr3
  refine lv_iload_n hx hb dX8_toldShots_45 rfl (lv_at hl 0 rfl) ?_
  rw [← Option.some.inj hr]
  exact xiret hx hb hr0 hlocks hW adR_rf dX8_toldShots_46

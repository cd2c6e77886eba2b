set_option maxHeartbeats 4000000 in
set_option maxRecDepth 100000 in
theorem c_X10_carryOutAct (l : Launch) (D : va_G) (cA : Nat → ClassId) (ad : Nat → Nat) (M : Mm) {r : Int32} {M' : Mm} (hr : f_X10_carryOutAct M = some (r, M')) : Met l yX10_carryOutAct wsX10_carryOutAct ({ frames := 5, cells := 0, slots := 0, locals := 121 }) (PcX D true cA ad M [.ref (ad 224)]) (QiX true D true cA ad r M') 0 0 (AX true ad) := by
  refine Met.ofW (cc := cX10_carryOutAct) (maxL := 1) (ret := (some .int)) (by decide) rfl ?_
  intro p e s m args below meth c s₁ B hml hv
  obtain ⟨hav, hP0, hK⟩ := hv
  have hx := B.exec
  have hb := B.bytes
  have hr0 := B.returns
  have hts := atoms_spec (ws := wsX10_carryOutAct) B.pre
  have hown : s.vm.findClass RX10 = some m.cls := findClass_of_methodNamed B.named
  have hlocks := B.notSynchronized
  have hW := xstart hP0
  have hi0 : ∀ w ∈ wsX00, w ∈ wsX10_carryOutAct := fun w h => List.mem_cons_of_mem _ (List.mem_append_left _ (List.mem_append_left _ (List.mem_append_left _ (List.mem_append_left _ (List.mem_append_left _ (List.mem_append_left _ (List.mem_append_left _ (List.mem_append_right _ h))))))))
  have hi10 : ∀ w ∈ wsX100, w ∈ wsX10_carryOutAct := fun w h => List.mem_cons_of_mem _ (List.mem_append_left _ (List.mem_append_left _ (List.mem_append_left _ (List.mem_append_left _ (List.mem_append_left _ (List.mem_append_left _ (List.mem_append_left _ (List.mem_append_left _ (List.mem_append_right _ h)))))))))
  have hl := lv_entry ([.ref (ad 224)]) (n := 1) (Nat.le_of_ble_eq_true rfl)
  have hef := lg_entry_eq m ([.ref (ad 224)]) 1
  rw [← hav] at hef
  rw [hef]
  clear hef
  generalize (lg_sl ([.ref (ad 224)]) ++ List.replicate (1 - (lg_sl ([.ref (ad 224)])).length) Slot.unset).toArray = ls at hl ⊢
  have hl : lv_has ls 1 [(0, .ref (ad 224))] := hl
  clear hP0
  unfold f_X10_carryOutAct at hr
  refine lv_aload_n hx hb dX10_carryOutAct_0 rfl (lv_at hl 0 rfl) ?_
  refine g10_4 hx hb hts hi10 hown hK hW (k := 224) rfl (hts _ (wm 1 rfl)) dX10_carryOutAct_1 ?_
  refine g0_3 hx hb hts hi0 hown hK hW (k := 229) rfl (hts _ (wm 2 rfl)) dX10_carryOutAct_4 ?_
  obtain ⟨y_1, ey_1, hr⟩ := lt1_e hr
  rw [← ey_1]
  by_cases c7_0 : y_1 = (99 : Int32)
  · have hr := br_p c7_0 hr
    refine lv_lookup (tgt := 65) hx hb dX10_carryOutAct_7 (by decide) (off := 58) (by rw [c7_0]; decide) (by decide) ?_
    refine lv_aload_n hx hb dX10_carryOutAct_65 rfl (lv_at hl 0 rfl) ?_
    obtain ⟨r_3, M_2, hc66, hr⟩ := ob2_e hr
    refine xc_i (va_runV (As := []) (rest := []) ⟨hx, hb, hml, hown, hts⟩ (c_X10_closeRound l D cA ad M hc66) (cwV 0 hts gX10_carryOutAct_X10_closeRound rfl rfl rfl (by decide +kernel) ⟨Nat.le_of_ble_eq_true rfl, Nat.le_of_ble_eq_true rfl⟩) (xpreV hK hW (k := 224) rfl (by decide) rfl) rfl rfl hl.1 rfl (lv_room (Nat.le_of_ble_eq_true rfl)) dX10_carryOutAct_66 ⟨Nat.le_of_ble_eq_true rfl, Nat.le_of_ble_eq_true rfl⟩) hW (fun ad_4 H locs had2 hW => ?_)
    have hl := lv_sub (l' := []) hl [] rfl
    have had := had2
    obtain ⟨e1, e2⟩ := Prod.mk.inj (Option.some.inj hr)
    rw [← e1, ← e2]
    exact xiret hx hb hr0 hlocks hW had dX10_carryOutAct_69
  · have hr := br_n c7_0 hr
    by_cases c7_1 : y_1 = (115 : Int32)
    · have hr := br_p c7_1 hr
      refine lv_lookup (tgt := 32) hx hb dX10_carryOutAct_7 (by decide) (off := 25) (by rw [c7_1]; decide) (by decide) ?_
      refine lv_aload_n hx hb dX10_carryOutAct_32 rfl (lv_at hl 0 rfl) ?_
      refine lv_aload_n hx hb dX10_carryOutAct_33 rfl (lv_at hl 0 rfl) ?_
      refine g10_4 hx hb hts hi10 hown hK hW (k := 224) rfl (hts _ (wm 1 rfl)) dX10_carryOutAct_34 ?_
      refine g0_4 hx hb hts hi0 hown hK hW (k := 229) rfl (hts _ (wm 3 rfl)) dX10_carryOutAct_37 ?_
      refine lv_aload_n hx hb dX10_carryOutAct_40 rfl (lv_at hl 0 rfl) ?_
      refine g10_4 hx hb hts hi10 hown hK hW (k := 224) rfl (hts _ (wm 1 rfl)) dX10_carryOutAct_41 ?_
      refine g0_5 hx hb hts hi0 hown hK hW (k := 229) rfl (hts _ (wm 4 rfl)) dX10_carryOutAct_44 ?_
      refine lv_aload_n hx hb dX10_carryOutAct_47 rfl (lv_at hl 0 rfl) ?_
      refine g10_4 hx hb hts hi10 hown hK hW (k := 224) rfl (hts _ (wm 1 rfl)) dX10_carryOutAct_48 ?_
      refine g0_6 hx hb hts hi0 hown hK hW (k := 229) rfl (hts _ (wm 5 rfl)) dX10_carryOutAct_51 ?_
      refine lv_aload_n hx hb dX10_carryOutAct_54 rfl (lv_at hl 0 rfl) ?_
      refine g10_4 hx hb hts hi10 hown hK hW (k := 224) rfl (hts _ (wm 1 rfl)) dX10_carryOutAct_55 ?_
      refine g0_7 hx hb hts hi0 hown hK hW (k := 229) rfl (hts _ (wm 6 rfl)) dX10_carryOutAct_58 ?_
      obtain ⟨r_6, M_5, hc61, hr⟩ := ob2_e hr
      refine xk_i (va_runV (As := [.int (gI M 229 4), .int (gI M 229 5), .int (gI M 229 6), .int (gI M 229 7)]) (rest := []) ⟨hx, hb, hml, hown, hts⟩ (c_X10_takeShot l D cA ad M (gI M 229 4) (gI M 229 5) (gI M 229 6) (gI M 229 7) hc61) (cwV 4 hts gX10_carryOutAct_X10_takeShot rfl rfl rfl (by decide +kernel) ⟨Nat.le_of_ble_eq_true rfl, Nat.le_of_ble_eq_true rfl⟩) (xpreV hK hW (k := 224) rfl (by decide) rfl) rfl rfl hl.1 rfl (lv_room (Nat.le_of_ble_eq_true rfl)) dX10_carryOutAct_61 ⟨Nat.le_of_ble_eq_true rfl, Nat.le_of_ble_eq_true rfl⟩) hW (fun H locs hW => ?_)
      obtain ⟨e1, e2⟩ := Prod.mk.inj (Option.some.inj hr)
      rw [← e1, ← e2]
      exact xiret hx hb hr0 hlocks hW adR_rf dX10_carryOutAct_64
    · have hr := br_n c7_1 hr
      refine lv_lookup (tgt := 70) hx hb dX10_carryOutAct_7 (by decide) (off := 63) (by refine (lv_osw c7_0 (by decide)).trans ?_; refine (lv_osw c7_1 (by decide)).trans ?_; rfl) (by decide) ?_
      refine lv_aload_n hx hb dX10_carryOutAct_70 rfl (lv_at hl 0 rfl) ?_
      obtain ⟨r_8, M_7, hc71, hr⟩ := ob2_e hr
      refine xk_i (va_runV (As := []) (rest := []) ⟨hx, hb, hml, hown, hts⟩ (c_X10_swapTransducers l D cA ad M hc71) (cwV 0 hts gX10_carryOutAct_X10_swapTransducers rfl rfl rfl (by decide +kernel) ⟨Nat.le_of_ble_eq_true rfl, Nat.le_of_ble_eq_true rfl⟩) (xpreV hK hW (k := 224) rfl (by decide) rfl) rfl rfl hl.1 rfl (lv_room (Nat.le_of_ble_eq_true rfl)) dX10_carryOutAct_71 ⟨Nat.le_of_ble_eq_true rfl, Nat.le_of_ble_eq_true rfl⟩) hW (fun H locs hW => ?_)
      obtain ⟨e1, e2⟩ := Prod.mk.inj (Option.some.inj hr)
      rw [← e1, ← e2]
      exact xiret hx hb hr0 hlocks hW adR_rf dX10_carryOutAct_74

set_option maxHeartbeats 4000000 in
set_option maxRecDepth 100000 in
theorem c_X10_isError (l : Launch) (D : va_G) (cA : Nat → ClassId) (ad : Nat → Nat) (M : Mm) (x0 : Int32) {r : Int32} (hr : f_X10_isError x0 M = some r) : Met l yX10_isError wsX10_isError ({ frames := 0, cells := 0, slots := 0, locals := 0 }) (PcX D true cA ad M [.int x0]) (QiX false D true cA ad r M) 0 0 (AX true ad) := by
  refine Met.ofW (cc := cX10_isError) (maxL := 1) (ret := (some .boolean)) (by decide) rfl ?_
  intro p e s m args below meth c s₁ B hml hv
  obtain ⟨hav, hP0, hK⟩ := hv
  have hx := B.exec
  have hb := B.bytes
  have hr0 := B.returns
  have hts := atoms_spec (ws := wsX10_isError) B.pre
  have hown : s.vm.findClass RX10 = some m.cls := findClass_of_methodNamed B.named
  have hlocks := B.notSynchronized
  have hW := xstart hP0
  have hl := lv_entry ([.int x0]) (n := 1) (Nat.le_of_ble_eq_true rfl)
  have hef := lg_entry_eq m ([.int x0]) 1
  rw [← hav] at hef
  rw [hef]
  clear hef
  generalize (lg_sl ([.int x0]) ++ List.replicate (1 - (lg_sl ([.int x0])).length) Slot.unset).toArray = ls at hl ⊢
  have hl : lv_has ls 1 [(0, .int x0)] := hl
  clear hP0
  unfold f_X10_isError at hr
  refine lv_iload_n hx hb dX10_isError_0 rfl (lv_at hl 0 rfl) ?_
  refine lv_ldc (v := (-2000000001 : Int32)) hx hb hown (hts _ (wm 1 rfl)) dX10_isError_1 ?_
  refine lv_icmp_eq (tgt := 24) hx hb dX10_isError_3 (by decide) (fun c1 => ?_) (fun c1 => ?_)
  · have hr := br_p c1 hr
    refine lv_iconst (v := (1 : Int32)) hx hb dX10_isError_24 (by decide) ?_
    refine lv_goto (tgt := 29) hx hb dX10_isError_25 (by decide) ?_
    rw [← Option.some.inj hr]
    exact xzret hx hb hr0 hlocks hW adR_rf (by decide) dX10_isError_29
  · have hr := br_n c1 hr
    refine lv_iload_n hx hb dX10_isError_6 rfl (lv_at hl 0 rfl) ?_
    refine lv_ldc (v := (-2000000002 : Int32)) hx hb hown (hts _ (wm 2 rfl)) dX10_isError_7 ?_
    refine lv_icmp_eq (tgt := 24) hx hb dX10_isError_9 (by decide) (fun c1 => ?_) (fun c1 => ?_)
    · have hr := br_p c1 hr
      refine lv_iconst (v := (1 : Int32)) hx hb dX10_isError_24 (by decide) ?_
      refine lv_goto (tgt := 29) hx hb dX10_isError_25 (by decide) ?_
      rw [← Option.some.inj hr]
      exact xzret hx hb hr0 hlocks hW adR_rf (by decide) dX10_isError_29
    · have hr := br_n c1 hr
      refine lv_iload_n hx hb dX10_isError_12 rfl (lv_at hl 0 rfl) ?_
      refine lv_ldc (v := (-2000000003 : Int32)) hx hb hown (hts _ (wm 3 rfl)) dX10_isError_13 ?_
      refine lv_icmp_eq (tgt := 24) hx hb dX10_isError_15 (by decide) (fun c1 => ?_) (fun c1 => ?_)
      · have hr := br_p c1 hr
        refine lv_iconst (v := (1 : Int32)) hx hb dX10_isError_24 (by decide) ?_
        refine lv_goto (tgt := 29) hx hb dX10_isError_25 (by decide) ?_
        rw [← Option.some.inj hr]
        exact xzret hx hb hr0 hlocks hW adR_rf (by decide) dX10_isError_29
      · have hr := br_n c1 hr
        refine lv_iload_n hx hb dX10_isError_18 rfl (lv_at hl 0 rfl) ?_
        refine lv_ldc (v := (-2000000004 : Int32)) hx hb hown (hts _ (wm 4 rfl)) dX10_isError_19 ?_
        refine lv_icmp_ne (tgt := 28) hx hb dX10_isError_21 (by decide) (fun c1 => ?_) (fun c1 => ?_)
        · have hr := br_n c1 hr
          refine lv_iconst (v := (0 : Int32)) hx hb dX10_isError_28 (by decide) ?_
          rw [← Option.some.inj hr]
          exact xzret hx hb hr0 hlocks hW adR_rf (by decide) dX10_isError_29
        · have hr := br_p c1 hr
          refine lv_iconst (v := (1 : Int32)) hx hb dX10_isError_24 (by decide) ?_
          refine lv_goto (tgt := 29) hx hb dX10_isError_25 (by decide) ?_
          rw [← Option.some.inj hr]
          exact xzret hx hb hr0 hlocks hW adR_rf (by decide) dX10_isError_29

set_option maxHeartbeats 4000000 in
set_option maxRecDepth 100000 in
theorem c_X10_run (l : Launch) (D : va_G) (cA : Nat → ClassId) (ad : Nat → Nat) (M : Mm) {r : Int32} {M' : Mm} (hr : f_X10_run M = some (r, M')) : Met l yX10_run wsX10_run ({ frames := 6, cells := 0, slots := 0, locals := 141 }) (PcX D true cA ad M [.ref (ad 224)]) (QiX true D true cA ad r M') 0 0 (AX true ad) := by
  refine Met.ofW (cc := cX10_run) (maxL := 3) (ret := (some .int)) (by decide) rfl ?_
  intro p e s m args below meth c s₁ B hml hv
  obtain ⟨hav, hP0, hK⟩ := hv
  have hx := B.exec
  have hb := B.bytes
  have hr0 := B.returns
  have hts := atoms_spec (ws := wsX10_run) B.pre
  have hown : s.vm.findClass RX10 = some m.cls := findClass_of_methodNamed B.named
  have hlocks := B.notSynchronized
  have hW := xstart hP0
  have hi10 : ∀ w ∈ wsX100, w ∈ wsX10_run := fun w h => List.mem_cons_of_mem _ (List.mem_append_left _ (List.mem_append_left _ (List.mem_append_left _ (List.mem_append_left _ (List.mem_append_left _ (List.mem_append_left _ (List.mem_append_left _ (List.mem_append_left _ (List.mem_append_left _ (List.mem_append_left _ (List.mem_append_right _ h)))))))))))
  have hl := lv_entry ([.ref (ad 224)]) (n := 3) (Nat.le_of_ble_eq_true rfl)
  have hef := lg_entry_eq m ([.ref (ad 224)]) 3
  rw [← hav] at hef
  rw [hef]
  clear hef
  generalize (lg_sl ([.ref (ad 224)]) ++ List.replicate (3 - (lg_sl ([.ref (ad 224)])).length) Slot.unset).toArray = ls at hl ⊢
  have hl : lv_has ls 3 [(0, .ref (ad 224))] := hl
  clear hP0
  unfold f_X10_run at hr
  refine lv_aload_n hx hb dX10_run_0 rfl (lv_at hl 0 rfl) ?_
  obtain ⟨r_2, M_1, hc1, hr⟩ := ob2_e hr
  refine xk_i (va_runV (As := []) (rest := []) ⟨hx, hb, hml, hown, hts⟩ (c_X10_faultPosition l D cA ad M hc1) (cwV 0 hts gX10_run_X10_faultPosition rfl rfl rfl (by decide +kernel) ⟨Nat.le_of_ble_eq_true rfl, Nat.le_of_ble_eq_true rfl⟩) (xpreV hK hW (k := 224) rfl (by decide) rfl) rfl rfl hl.1 rfl (lv_room (Nat.le_of_ble_eq_true rfl)) dX10_run_1 ⟨Nat.le_of_ble_eq_true rfl, Nat.le_of_ble_eq_true rfl⟩) hW (fun H locs hW => ?_)
  refine lv_ldc (v := (-2000000005 : Int32)) hx hb hown (hts _ (wm 1 rfl)) dX10_run_4 ?_
  refine lv_icmp_eq (tgt := 12) hx hb dX10_run_6 (by decide) (fun c1 => ?_) (fun c1 => ?_)
  · have hr := br_p c1 hr
    refine lv_aload_n hx hb dX10_run_12 rfl (lv_at hl 0 rfl) ?_
    refine g10_1 hx hb hts hi10 hown hK hW (k := 224) rfl (hts _ (wm 3 rfl)) dX10_run_13 ?_
    refine lv_aload_n hx hb dX10_run_16 rfl (lv_at hl 0 rfl) ?_
    refine g10_0 hx hb hts hi10 hown hK hW (k := 224) rfl (hts _ (wm 4 rfl)) dX10_run_17 ?_
    obtain ⟨M_3, hc20, hr⟩ := ob1_e hr
    refine xc_v (va_runV (As := [.ref (ad 0)]) (rest := []) ⟨hx, hb, hml, hown, hts⟩ (c_X1_push l D cA ad M_1 hc20) (cwV 1 hts gX10_run_X1_push rfl rfl rfl (by decide +kernel) ⟨Nat.le_of_ble_eq_true rfl, Nat.le_of_ble_eq_true rfl⟩) (xpreV hK hW (k := 225) rfl (by decide) rfl) rfl rfl hl.1 rfl (lv_room (Nat.le_of_ble_eq_true rfl)) dX10_run_20 ⟨Nat.le_of_ble_eq_true rfl, Nat.le_of_ble_eq_true rfl⟩) hW (fun ad_4 H locs had2 hW => ?_)
    rw [← had2.1 224 rfl] at hl
    have had := had2
    refine lv_aload_n hx hb dX10_run_23 rfl (lv_at hl 0 rfl) ?_
    refine g10_4 hx hb hts hi10 hown hK hW (k := 224) rfl (hts _ (wm 5 rfl)) dX10_run_24 ?_
    obtain ⟨M_5, hc27, hr⟩ := ob1_e hr
    refine xk_v (va_runV (As := []) (rest := []) ⟨hx, hb, hml, hown, hts⟩ (c_X0_begin l D cA ad_4 M_3 hc27) (cwV 0 hts gX10_run_X0_begin rfl rfl rfl (by decide +kernel) ⟨Nat.le_of_ble_eq_true rfl, Nat.le_of_ble_eq_true rfl⟩) (xpreV hK hW (k := 229) rfl (by decide) rfl) rfl rfl hl.1 rfl (lv_room (Nat.le_of_ble_eq_true rfl)) dX10_run_27 ⟨Nat.le_of_ble_eq_true rfl, Nat.le_of_ble_eq_true rfl⟩) hW (fun H locs hW => ?_)
    refine lv_iconst (v := (0 : Int32)) hx hb dX10_run_30 (by decide) ?_
    refine lv_istore_n (lv' := [(1, .int (0 : Int32)), (0, .ref (ad_4 224))]) hx hb dX10_run_31 rfl hl (by decide) rfl (fun ls hl => ?_)
    refine lv_iconst (v := (0 : Int32)) hx hb dX10_run_32 (by decide) ?_
    refine lv_istore_n (lv' := [(2, .int (0 : Int32)), (1, .int (0 : Int32)), (0, .ref (ad_4 224))]) hx hb dX10_run_33 rfl hl (by decide) rfl (fun ls hl => ?_)
    have hL34_1 : ∀ (n : Nat) (x1_6 : Int32) (x2_7 : Int32) (M_8 : Mm) (ad_9 : Nat → Nat) (H : Heap) (locs : List Loc) (ls : Array Slot), adR true true ad ad_9 → Xw D true cA ad_9 M_8 (AX true ad) s.heap H locs → lv_has ls 3 [(0, .ref (ad_9 224)), (1, .int x1_6), (2, .int x2_7)] → f_X10_run_L34 n x1_6 x2_7 M_8 = some (r, M') → W p l e (headSpec wsX10_run { frames := 6, cells := 0, slots := 0, locals := 141 }).room s m args below meth c H locs 0 0 (MQ below (QiX true D true cA ad r M') args s 0 0 (AX true ad)) (F0 m 34 ls []) := by
      intro n
      induction n with
      | zero =>
        intro x1_6 x2_7 M_8 ad_9 H locs ls had hW hl hr
        exact absurd hr (by simp [f_X10_run_L34])
      | succ n ih =>
        intro x1_6 x2_7 M_8 ad_9 H locs ls had hW hl hr
        rw [f_X10_run_L34] at hr
        refine lv_iload_n hx hb dX10_run_34 rfl (lv_at hl 2 rfl) ?_
        refine lv_bipush (v := (100 : Int32)) hx hb dX10_run_35 (by decide) ?_
        refine lv_icmp_ge (tgt := 78) hx hb dX10_run_37 (by decide) (fun c1 => ?_) (fun c1 => ?_)
        · have hr := br_p c1 hr
          refine lv_iload_n hx hb dX10_run_78 rfl (lv_at hl 1 rfl) ?_
          obtain ⟨e1, e2⟩ := Prod.mk.inj (Option.some.inj hr)
          rw [← e1, ← e2]
          exact xiret hx hb hr0 hlocks hW had dX10_run_79
        · have hr := br_n c1 hr
          refine lv_aload_n hx hb dX10_run_40 rfl (lv_at hl 0 rfl) ?_
          refine g10_4 hx hb hts hi10 hown hK hW (k := 224) rfl (hts _ (wm 5 rfl)) dX10_run_41 ?_
          obtain ⟨r_10, hc44, hr⟩ := ob1_e hr
          refine xk_i (va_runV (As := []) (rest := []) ⟨hx, hb, hml, hown, hts⟩ (c_X0_hasMore l D cA ad_9 M_8 hc44) (cwV 0 hts gX10_run_X0_hasMore rfl rfl rfl (by decide +kernel) ⟨Nat.le_of_ble_eq_true rfl, Nat.le_of_ble_eq_true rfl⟩) (xpreV hK hW (k := 229) rfl (by decide) rfl) rfl rfl hl.1 rfl (lv_room (Nat.le_of_ble_eq_true rfl)) dX10_run_44 ⟨Nat.le_of_ble_eq_true rfl, Nat.le_of_ble_eq_true rfl⟩) hW (fun H locs hW => ?_)
          refine lv_if_eq (tgt := 78) hx hb dX10_run_47 (by decide) (fun c1 => ?_) (fun c1 => ?_)
          · have hr := br_p c1 hr
            refine lv_iload_n hx hb dX10_run_78 rfl (lv_at hl 1 rfl) ?_
            obtain ⟨e1, e2⟩ := Prod.mk.inj (Option.some.inj hr)
            rw [← e1, ← e2]
            exact xiret hx hb hr0 hlocks hW had dX10_run_79
          · have hr := br_n c1 hr
            refine lv_aload_n hx hb dX10_run_50 rfl (lv_at hl 0 rfl) ?_
            refine g10_4 hx hb hts hi10 hown hK hW (k := 224) rfl (hts _ (wm 5 rfl)) dX10_run_51 ?_
            obtain ⟨M_11, hc54, hr⟩ := ob1_e hr
            refine xk_v (va_runV (As := []) (rest := []) ⟨hx, hb, hml, hown, hts⟩ (c_X0_readAct l D cA ad_9 M_8 hc54) (cwV 0 hts gX10_run_X0_readAct rfl rfl rfl (by decide +kernel) ⟨Nat.le_of_ble_eq_true rfl, Nat.le_of_ble_eq_true rfl⟩) (xpreV hK hW (k := 229) rfl (by decide) rfl) rfl rfl hl.1 rfl (lv_room (Nat.le_of_ble_eq_true rfl)) dX10_run_54 ⟨Nat.le_of_ble_eq_true rfl, Nat.le_of_ble_eq_true rfl⟩) hW (fun H locs hW => ?_)
            refine lv_aload_n hx hb dX10_run_57 rfl (lv_at hl 0 rfl) ?_
            obtain ⟨r_13, M_12, hc58, hr⟩ := ob2_e hr
            refine xc_i (va_runV (As := []) (rest := []) ⟨hx, hb, hml, hown, hts⟩ (c_X10_carryOutAct l D cA ad_9 M_11 hc58) (cwV 0 hts gX10_run_X10_carryOutAct rfl rfl rfl (by decide +kernel) ⟨Nat.le_of_ble_eq_true rfl, Nat.le_of_ble_eq_true rfl⟩) (xpreV hK hW (k := 224) rfl (by decide) rfl) rfl rfl hl.1 rfl (lv_room (Nat.le_of_ble_eq_true rfl)) dX10_run_58 ⟨Nat.le_of_ble_eq_true rfl, Nat.le_of_ble_eq_true rfl⟩) hW (fun ad_14 H locs had2 hW => ?_)
            rw [← had2.1 224 rfl] at hl
            have had := adR_tr had had2
            obtain ⟨r_15, hc61, hr⟩ := ob1_e hr
            refine xk_i (va_runS (As := [.int r_13]) (rest := []) ⟨hx, hb, hml, hown, hts⟩ (c_X10_isError l D cA ad_14 M_12 r_13 hc61) (va_cwS 1 hts gX10_run_X10_isError rfl rfl rfl (by decide +kernel) ⟨Nat.le_of_ble_eq_true rfl, Nat.le_of_ble_eq_true rfl⟩) (xpreS hK hW) rfl rfl hl.1 rfl (lv_room (Nat.le_of_ble_eq_true rfl)) dX10_run_61 ⟨Nat.le_of_ble_eq_true rfl, Nat.le_of_ble_eq_true rfl⟩) hW (fun H locs hW => ?_)
            refine lv_if_eq (tgt := 69) hx hb dX10_run_64 (by decide) (fun c1 => ?_) (fun c1 => ?_)
            · have hr := br_p c1 hr
              obtain ⟨x1_16, ex1_16, hr⟩ := lt1_e hr
              refine lv_iinc (v := x1_16) (lv' := [(1, .int x1_16), (0, .ref (ad_14 224)), (2, .int x2_7)]) hx hb dX10_run_69 hl (k := 1) rfl (by rw [ex1_16]; rfl) (by decide) rfl (fun ls hl => ?_)
              obtain ⟨x2_17, ex2_17, hr⟩ := lt1_e hr
              refine lv_iinc (v := x2_17) (lv' := [(2, .int x2_17), (1, .int x1_16), (0, .ref (ad_14 224))]) hx hb dX10_run_72 hl (k := 2) rfl (by rw [ex2_17]; rfl) (by decide) rfl (fun ls hl => ?_)
              refine lv_goto (tgt := 34) hx hb dX10_run_75 (by decide) ?_
              exact ih x1_16 x2_17 M_12 ad_14 _ _ _ had hW (lv_sub hl [2, 1, 0] rfl) hr
            · have hr := br_n c1 hr
              refine lv_iload_n hx hb dX10_run_67 rfl (lv_at hl 1 rfl) ?_
              obtain ⟨e1, e2⟩ := Prod.mk.inj (Option.some.inj hr)
              rw [← e1, ← e2]
              exact xiret hx hb hr0 hlocks hW had dX10_run_68
    exact hL34_1 1000 (0 : Int32) (0 : Int32) M_5 ad_4 _ _ _ had hW (lv_sub hl [2, 1, 0] rfl) hr
  · have hr := br_n c1 hr
    refine lv_ldc (v := (-2000000003 : Int32)) hx hb hown (hts _ (wm 2 rfl)) dX10_run_9 ?_
    obtain ⟨e1, e2⟩ := Prod.mk.inj (Option.some.inj hr)
    rw [← e1, ← e2]
    exact xiret hx hb hr0 hlocks hW adR_rf dX10_run_11

set_option maxHeartbeats 4000000 in
set_option maxRecDepth 100000 in
theorem c_X10_undo (l : Launch) (D : va_G) (cA : Nat → ClassId) (ad : Nat → Nat) (M : Mm) {r : Int32} {M' : Mm} (hr : f_X10_undo M = some (r, M')) : Met l yX10_undo wsX10_undo ({ frames := 4, cells := 0, slots := 0, locals := 124 }) (PcX D true cA ad M [.ref (ad 224)]) (QiX false D true cA ad r M') 0 0 (AX true ad) := by
  refine Met.ofW (cc := cX10_undo) (maxL := 1) (ret := (some .int)) (by decide) rfl ?_
  intro p e s m args below meth c s₁ B hml hv
  obtain ⟨hav, hP0, hK⟩ := hv
  have hx := B.exec
  have hb := B.bytes
  have hr0 := B.returns
  have hts := atoms_spec (ws := wsX10_undo) B.pre
  have hown : s.vm.findClass RX10 = some m.cls := findClass_of_methodNamed B.named
  have hlocks := B.notSynchronized
  have hW := xstart hP0
  have hi1 : ∀ w ∈ wsX10, w ∈ wsX10_undo := fun w h => List.mem_cons_of_mem _ (List.mem_append_left _ (List.mem_append_left _ (List.mem_append_left _ (List.mem_append_left _ (List.mem_append_left _ (List.mem_append_left _ (List.mem_append_right _ h)))))))
  have hi10 : ∀ w ∈ wsX100, w ∈ wsX10_undo := fun w h => List.mem_cons_of_mem _ (List.mem_append_left _ (List.mem_append_left _ (List.mem_append_left _ (List.mem_append_left _ (List.mem_append_left _ (List.mem_append_left _ (List.mem_append_left _ (List.mem_append_right _ h))))))))
  have hl := lv_entry ([.ref (ad 224)]) (n := 1) (Nat.le_of_ble_eq_true rfl)
  have hef := lg_entry_eq m ([.ref (ad 224)]) 1
  rw [← hav] at hef
  rw [hef]
  clear hef
  generalize (lg_sl ([.ref (ad 224)]) ++ List.replicate (1 - (lg_sl ([.ref (ad 224)])).length) Slot.unset).toArray = ls at hl ⊢
  have hl : lv_has ls 1 [(0, .ref (ad 224))] := hl
  clear hP0
  unfold f_X10_undo at hr
  refine lv_aload_n hx hb dX10_undo_0 rfl (lv_at hl 0 rfl) ?_
  refine g10_1 hx hb hts hi10 hown hK hW (k := 224) rfl (hts _ (wm 1 rfl)) dX10_undo_1 ?_
  refine g1_1 hx hb hts hi1 hown hK hW (k := 225) rfl (hts _ (wm 2 rfl)) dX10_undo_4 ?_
  refine lv_if_ne (tgt := 13) hx hb dX10_undo_7 (by decide) (fun c1 => ?_) (fun c1 => ?_)
  · have hr := br_n c1 hr
    refine lv_aload_n hx hb dX10_undo_13 rfl (lv_at hl 0 rfl) ?_
    refine g10_1 hx hb hts hi10 hown hK hW (k := 224) rfl (hts _ (wm 1 rfl)) dX10_undo_14 ?_
    refine lv_aload_n hx hb dX10_undo_17 rfl (lv_at hl 0 rfl) ?_
    refine g10_0 hx hb hts hi10 hown hK hW (k := 224) rfl (hts _ (wm 4 rfl)) dX10_undo_18 ?_
    obtain ⟨M_1, hc21, hr⟩ := ob1_e hr
    refine xk_v (va_runV (As := [.ref (ad 0)]) (rest := []) ⟨hx, hb, hml, hown, hts⟩ (c_X1_pop l D cA ad M hc21) (cwV 1 hts gX10_undo_X1_pop rfl rfl rfl (by decide +kernel) ⟨Nat.le_of_ble_eq_true rfl, Nat.le_of_ble_eq_true rfl⟩) (xpreV hK hW (k := 225) rfl (by decide) rfl) rfl rfl hl.1 rfl (lv_room (Nat.le_of_ble_eq_true rfl)) dX10_undo_21 ⟨Nat.le_of_ble_eq_true rfl, Nat.le_of_ble_eq_true rfl⟩) hW (fun H locs hW => ?_)
    refine lv_aload_n hx hb dX10_undo_24 rfl (lv_at hl 0 rfl) ?_
    refine g10_1 hx hb hts hi10 hown hK hW (k := 224) rfl (hts _ (wm 1 rfl)) dX10_undo_25 ?_
    refine g1_1 hx hb hts hi1 hown hK hW (k := 225) rfl (hts _ (wm 2 rfl)) dX10_undo_28 ?_
    obtain ⟨e1, e2⟩ := Prod.mk.inj (Option.some.inj hr)
    rw [← e1, ← e2]
    exact xiret hx hb hr0 hlocks hW adR_rf dX10_undo_31
  · have hr := br_p c1 hr
    refine lv_ldc (v := (-2000000003 : Int32)) hx hb hown (hts _ (wm 3 rfl)) dX10_undo_10 ?_
    obtain ⟨e1, e2⟩ := Prod.mk.inj (Option.some.inj hr)
    rw [← e1, ← e2]
    exact xiret hx hb hr0 hlocks hW adR_rf dX10_undo_12

set_option maxHeartbeats 4000000 in
set_option maxRecDepth 100000 in
theorem c_X10_save (l : Launch) (D : va_G) (cA : Nat → ClassId) (ad : Nat → Nat) (M : Mm) (x1 : Int32) {r : Int32} {M' : Mm} (hr : f_X10_save x1 M = some (r, M')) : Met l yX10_save wsX10_save ({ frames := 3, cells := 0, slots := 0, locals := 103 }) (PcX D true cA ad M [.ref (ad 224), .int x1]) (QiX false D true cA ad r M') 0 0 (AX true ad) := by
  refine Met.ofW (cc := cX10_save) (maxL := 2) (ret := (some .int)) (by decide) rfl ?_
  intro p e s m args below meth c s₁ B hml hv
  obtain ⟨hav, hP0, hK⟩ := hv
  have hx := B.exec
  have hb := B.bytes
  have hr0 := B.returns
  have hts := atoms_spec (ws := wsX10_save) B.pre
  have hown : s.vm.findClass RX10 = some m.cls := findClass_of_methodNamed B.named
  have hlocks := B.notSynchronized
  have hW := xstart hP0
  have hi8 : ∀ w ∈ wsX80, w ∈ wsX10_save := fun w h => List.mem_cons_of_mem _ (List.mem_append_left _ (List.mem_append_left _ (List.mem_append_left _ (List.mem_append_left _ (List.mem_append_left _ (List.mem_append_right _ h))))))
  have hi10 : ∀ w ∈ wsX100, w ∈ wsX10_save := fun w h => List.mem_cons_of_mem _ (List.mem_append_left _ (List.mem_append_left _ (List.mem_append_left _ (List.mem_append_left _ (List.mem_append_left _ (List.mem_append_left _ (List.mem_append_right _ h)))))))
  have hl := lv_entry ([.ref (ad 224), .int x1]) (n := 2) (Nat.le_of_ble_eq_true rfl)
  have hef := lg_entry_eq m ([.ref (ad 224), .int x1]) 2
  rw [← hav] at hef
  rw [hef]
  clear hef
  generalize (lg_sl ([.ref (ad 224), .int x1]) ++ List.replicate (2 - (lg_sl ([.ref (ad 224), .int x1])).length) Slot.unset).toArray = ls at hl ⊢
  have hl : lv_has ls 2 [(0, .ref (ad 224)), (1, .int x1)] := hl
  clear hP0
  unfold f_X10_save at hr
  refine lv_iload_n hx hb dX10_save_0 rfl (lv_at hl 1 rfl) ?_
  refine lv_if_lt (tgt := 9) hx hb dX10_save_1 (by decide) (fun c1 => ?_) (fun c1 => ?_)
  · have hr := br_p c1 hr
    refine lv_ldc (v := (-2000000001 : Int32)) hx hb hown (hts _ (wm 1 rfl)) dX10_save_9 ?_
    obtain ⟨e1, e2⟩ := Prod.mk.inj (Option.some.inj hr)
    rw [← e1, ← e2]
    exact xiret hx hb hr0 hlocks hW adR_rf dX10_save_11
  · have hr := br_n c1 hr
    refine lv_iload_n hx hb dX10_save_4 rfl (lv_at hl 1 rfl) ?_
    refine lv_iconst (v := (2 : Int32)) hx hb dX10_save_5 (by decide) ?_
    refine lv_icmp_lt (tgt := 12) hx hb dX10_save_6 (by decide) (fun c1 => ?_) (fun c1 => ?_)
    · have hr := br_p c1 hr
      refine lv_aload_n hx hb dX10_save_12 rfl (lv_at hl 0 rfl) ?_
      refine g10_2 hx hb hts hi10 hown hK hW (k := 224) rfl (hts _ (wm 2 rfl)) dX10_save_13 ?_
      refine lv_iload_n hx hb dX10_save_16 rfl (lv_at hl 1 rfl) ?_
      obtain ⟨hn17, hr⟩ := chk_e hr
      refine xaald hx hb hK hW (k := 227) (t := 53) rfl (by decide) (by decide) rfl (t0 := 5) rfl hn17 dX10_save_17 ?_
      refine lv_aload_n hx hb dX10_save_18 rfl (lv_at hl 0 rfl) ?_
      refine g10_0 hx hb hts hi10 hown hK hW (k := 224) rfl (hts _ (wm 3 rfl)) dX10_save_19 ?_
      obtain ⟨M_1, hc22, hr⟩ := ob1_e hr
      refine xk_v (va_runV (As := [.ref (ad 0)]) (rest := []) ⟨hx, hb, hml, hown, hts⟩ (c_X8_copyFrom l D cA ad M (rid 53 227 (ix x1)) 0 (ks_53 (k := 227) rfl hn17) (rfl : KS true 0 = 8) hc22) (cwV 1 hts gX10_save_X8_copyFrom rfl rfl rfl (by decide +kernel) ⟨Nat.le_of_ble_eq_true rfl, Nat.le_of_ble_eq_true rfl⟩) (xpreV hK hW (k := (rid 53 227 (ix x1))) (ks_53 (k := 227) rfl hn17) (by decide) rfl) rfl rfl hl.1 rfl (lv_room (Nat.le_of_ble_eq_true rfl)) dX10_save_22 ⟨Nat.le_of_ble_eq_true rfl, Nat.le_of_ble_eq_true rfl⟩) hW (fun H locs hW => ?_)
      refine lv_aload_n hx hb dX10_save_25 rfl (lv_at hl 0 rfl) ?_
      refine g10_3 hx hb hts hi10 hown hK hW (k := 224) rfl (hts _ (wm 4 rfl)) dX10_save_26 ?_
      refine lv_iload_n hx hb dX10_save_29 rfl (lv_at hl 1 rfl) ?_
      refine lv_iconst (v := (1 : Int32)) hx hb dX10_save_30 (by decide) ?_
      obtain ⟨hn31, hr⟩ := chk_e hr
      obtain ⟨M_2, eM_2, hr⟩ := lt1_e hr
      refine xzast hx hb hK hW (k := 228) (t := 31) rfl (by decide) (by decide) rfl (n := 2) hn31 (jx := (ix x1)) rfl (by decide) dX10_save_31 (fun H locs hW => ?_)
      rw [← eM_2] at hW
      refine lv_aload_n hx hb dX10_save_32 rfl (lv_at hl 0 rfl) ?_
      refine g10_0 hx hb hts hi10 hown hK hW (k := 224) rfl (hts _ (wm 3 rfl)) dX10_save_33 ?_
      refine g8_6 hx hb hts hi8 hown hK hW (k := 0) rfl (hts _ (wm 5 rfl)) dX10_save_36 ?_
      obtain ⟨e1, e2⟩ := Prod.mk.inj (Option.some.inj hr)
      rw [← e1, ← e2]
      exact xiret hx hb hr0 hlocks hW adR_rf dX10_save_39
    · have hr := br_n c1 hr
      refine lv_ldc (v := (-2000000001 : Int32)) hx hb hown (hts _ (wm 1 rfl)) dX10_save_9 ?_
      obtain ⟨e1, e2⟩ := Prod.mk.inj (Option.some.inj hr)
      rw [← e1, ← e2]
      exact xiret hx hb hr0 hlocks hW adR_rf dX10_save_11

set_option maxHeartbeats 4000000 in
set_option maxRecDepth 100000 in
theorem c_X10_restore (l : Launch) (D : va_G) (cA : Nat → ClassId) (ad : Nat → Nat) (M : Mm) (x1 : Int32) {r : Int32} {M' : Mm} (hr : f_X10_restore x1 M = some (r, M')) : Met l yX10_restore wsX10_restore ({ frames := 4, cells := 0, slots := 0, locals := 124 }) (PcX D true cA ad M [.ref (ad 224), .int x1]) (QiX true D true cA ad r M') 0 0 (AX true ad) := by
  refine Met.ofW (cc := cX10_restore) (maxL := 2) (ret := (some .int)) (by decide) rfl ?_
  intro p e s m args below meth c s₁ B hml hv
  obtain ⟨hav, hP0, hK⟩ := hv
  have hx := B.exec
  have hb := B.bytes
  have hr0 := B.returns
  have hts := atoms_spec (ws := wsX10_restore) B.pre
  have hown : s.vm.findClass RX10 = some m.cls := findClass_of_methodNamed B.named
  have hlocks := B.notSynchronized
  have hW := xstart hP0
  have hi8 : ∀ w ∈ wsX80, w ∈ wsX10_restore := fun w h => List.mem_cons_of_mem _ (List.mem_append_left _ (List.mem_append_left _ (List.mem_append_left _ (List.mem_append_left _ (List.mem_append_left _ (List.mem_append_left _ (List.mem_append_right _ h)))))))
  have hi10 : ∀ w ∈ wsX100, w ∈ wsX10_restore := fun w h => List.mem_cons_of_mem _ (List.mem_append_left _ (List.mem_append_left _ (List.mem_append_left _ (List.mem_append_left _ (List.mem_append_left _ (List.mem_append_left _ (List.mem_append_left _ (List.mem_append_right _ h))))))))
  have hl := lv_entry ([.ref (ad 224), .int x1]) (n := 2) (Nat.le_of_ble_eq_true rfl)
  have hef := lg_entry_eq m ([.ref (ad 224), .int x1]) 2
  rw [← hav] at hef
  rw [hef]
  clear hef
  generalize (lg_sl ([.ref (ad 224), .int x1]) ++ List.replicate (2 - (lg_sl ([.ref (ad 224), .int x1])).length) Slot.unset).toArray = ls at hl ⊢
  have hl : lv_has ls 2 [(0, .ref (ad 224)), (1, .int x1)] := hl
  clear hP0
  unfold f_X10_restore at hr
  refine lv_iload_n hx hb dX10_restore_0 rfl (lv_at hl 1 rfl) ?_
  refine lv_if_lt (tgt := 9) hx hb dX10_restore_1 (by decide) (fun c1 => ?_) (fun c1 => ?_)
  · have hr := br_p c1 hr
    refine lv_ldc (v := (-2000000001 : Int32)) hx hb hown (hts _ (wm 1 rfl)) dX10_restore_9 ?_
    obtain ⟨e1, e2⟩ := Prod.mk.inj (Option.some.inj hr)
    rw [← e1, ← e2]
    exact xiret hx hb hr0 hlocks hW adR_rf dX10_restore_11
  · have hr := br_n c1 hr
    refine lv_iload_n hx hb dX10_restore_4 rfl (lv_at hl 1 rfl) ?_
    refine lv_iconst (v := (2 : Int32)) hx hb dX10_restore_5 (by decide) ?_
    refine lv_icmp_lt (tgt := 12) hx hb dX10_restore_6 (by decide) (fun c1 => ?_) (fun c1 => ?_)
    · have hr := br_p c1 hr
      refine lv_aload_n hx hb dX10_restore_12 rfl (lv_at hl 0 rfl) ?_
      refine g10_3 hx hb hts hi10 hown hK hW (k := 224) rfl (hts _ (wm 2 rfl)) dX10_restore_13 ?_
      refine lv_iload_n hx hb dX10_restore_16 rfl (lv_at hl 1 rfl) ?_
      obtain ⟨hn17, hr⟩ := chk_e hr
      refine xzald hx hb hK hW (k := 228) (t := 31) rfl (by decide) (by decide) rfl (n := 2) hn17 (jx := (ix x1)) rfl dX10_restore_17 ?_
      refine lv_if_ne (tgt := 24) hx hb dX10_restore_18 (by decide) (fun c1 => ?_) (fun c1 => ?_)
      · have hr := br_n c1 hr
        refine lv_aload_n hx hb dX10_restore_24 rfl (lv_at hl 0 rfl) ?_
        refine g10_1 hx hb hts hi10 hown hK hW (k := 224) rfl (hts _ (wm 4 rfl)) dX10_restore_25 ?_
        refine lv_aload_n hx hb dX10_restore_28 rfl (lv_at hl 0 rfl) ?_
        refine g10_0 hx hb hts hi10 hown hK hW (k := 224) rfl (hts _ (wm 5 rfl)) dX10_restore_29 ?_
        obtain ⟨M_1, hc32, hr⟩ := ob1_e hr
        refine xc_v (va_runV (As := [.ref (ad 0)]) (rest := []) ⟨hx, hb, hml, hown, hts⟩ (c_X1_push l D cA ad M hc32) (cwV 1 hts gX10_restore_X1_push rfl rfl rfl (by decide +kernel) ⟨Nat.le_of_ble_eq_true rfl, Nat.le_of_ble_eq_true rfl⟩) (xpreV hK hW (k := 225) rfl (by decide) rfl) rfl rfl hl.1 rfl (lv_room (Nat.le_of_ble_eq_true rfl)) dX10_restore_32 ⟨Nat.le_of_ble_eq_true rfl, Nat.le_of_ble_eq_true rfl⟩) hW (fun ad_2 H locs had2 hW => ?_)
        rw [← had2.1 224 rfl] at hl
        have had := had2
        refine lv_aload_n hx hb dX10_restore_35 rfl (lv_at hl 0 rfl) ?_
        refine g10_0 hx hb hts hi10 hown hK hW (k := 224) rfl (hts _ (wm 5 rfl)) dX10_restore_36 ?_
        refine lv_aload_n hx hb dX10_restore_39 rfl (lv_at hl 0 rfl) ?_
        refine g10_2 hx hb hts hi10 hown hK hW (k := 224) rfl (hts _ (wm 6 rfl)) dX10_restore_40 ?_
        refine lv_iload_n hx hb dX10_restore_43 rfl (lv_at hl 1 rfl) ?_
        obtain ⟨hn44, hr⟩ := chk_e hr
        refine xaald hx hb hK hW (k := 227) (t := 53) rfl (by decide) (by decide) rfl (t0 := 5) rfl hn44 dX10_restore_44 ?_
        obtain ⟨M_3, hc45, hr⟩ := ob1_e hr
        refine xk_v (va_runV (As := [.ref (ad_2 (rid 53 227 (ix x1)))]) (rest := []) ⟨hx, hb, hml, hown, hts⟩ (c_X8_copyFrom l D cA ad_2 M_1 0 (rid 53 227 (ix x1)) (rfl : KS true 0 = 8) (ks_53 (k := 227) rfl hn44) hc45) (cwV 1 hts gX10_restore_X8_copyFrom rfl rfl rfl (by decide +kernel) ⟨Nat.le_of_ble_eq_true rfl, Nat.le_of_ble_eq_true rfl⟩) (xpreV hK hW (k := 0) rfl (by decide) rfl) rfl rfl hl.1 rfl (lv_room (Nat.le_of_ble_eq_true rfl)) dX10_restore_45 ⟨Nat.le_of_ble_eq_true rfl, Nat.le_of_ble_eq_true rfl⟩) hW (fun H locs hW => ?_)
        refine lv_aload_n hx hb dX10_restore_48 rfl (lv_at hl 0 rfl) ?_
        refine g10_0 hx hb hts hi10 hown hK hW (k := 224) rfl (hts _ (wm 5 rfl)) dX10_restore_49 ?_
        refine g8_6 hx hb hts hi8 hown hK hW (k := 0) rfl (hts _ (wm 7 rfl)) dX10_restore_52 ?_
        obtain ⟨e1, e2⟩ := Prod.mk.inj (Option.some.inj hr)
        rw [← e1, ← e2]
        exact xiret hx hb hr0 hlocks hW had dX10_restore_55
      · have hr := br_p c1 hr
        refine lv_ldc (v := (-2000000003 : Int32)) hx hb hown (hts _ (wm 3 rfl)) dX10_restore_21 ?_
        obtain ⟨e1, e2⟩ := Prod.mk.inj (Option.some.inj hr)
        rw [← e1, ← e2]
        exact xiret hx hb hr0 hlocks hW adR_rf dX10_restore_23
    · have hr := br_n c1 hr
      refine lv_ldc (v := (-2000000001 : Int32)) hx hb hown (hts _ (wm 1 rfl)) dX10_restore_9 ?_
      obtain ⟨e1, e2⟩ := Prod.mk.inj (Option.some.inj hr)
      rw [← e1, ← e2]
      exact xiret hx hb hr0 hlocks hW adR_rf dX10_restore_11

set_option maxHeartbeats 4000000 in
set_option maxRecDepth 100000 in
theorem c_X10_path (l : Launch) (D : va_G) (cA : Nat → ClassId) (ad : Nat → Nat) (M : Mm) (x1 : Int32) (x2 : Int32) {r : Int32} (hr : f_X10_path x1 x2 M = some r) : Met l yX10_path wsX10_path ({ frames := 2, cells := 0, slots := 0, locals := 41 }) (PcX D true cA ad M [.ref (ad 224), .int x1, .int x2]) (QiX false D true cA ad r M) 0 0 (AX true ad) := by
  refine Met.ofW (cc := cX10_path) (maxL := 4) (ret := (some .int)) (by decide) rfl ?_
  intro p e s m args below meth c s₁ B hml hv
  obtain ⟨hav, hP0, hK⟩ := hv
  have hx := B.exec
  have hb := B.bytes
  have hr0 := B.returns
  have hts := atoms_spec (ws := wsX10_path) B.pre
  have hown : s.vm.findClass RX10 = some m.cls := findClass_of_methodNamed B.named
  have hlocks := B.notSynchronized
  have hW := xstart hP0
  have hi10 : ∀ w ∈ wsX100, w ∈ wsX10_path := fun w h => List.mem_cons_of_mem _ (List.mem_append_left _ (List.mem_append_left _ (List.mem_append_right _ h)))
  have hl := lv_entry ([.ref (ad 224), .int x1, .int x2]) (n := 4) (Nat.le_of_ble_eq_true rfl)
  have hef := lg_entry_eq m ([.ref (ad 224), .int x1, .int x2]) 4
  rw [← hav] at hef
  rw [hef]
  clear hef
  generalize (lg_sl ([.ref (ad 224), .int x1, .int x2]) ++ List.replicate (4 - (lg_sl ([.ref (ad 224), .int x1, .int x2])).length) Slot.unset).toArray = ls at hl ⊢
  have hl : lv_has ls 4 [(0, .ref (ad 224)), (1, .int x1), (2, .int x2)] := hl
  clear hP0
  unfold f_X10_path at hr
  refine lv_aload_n hx hb dX10_path_0 rfl (lv_at hl 0 rfl) ?_
  refine g10_0 hx hb hts hi10 hown hK hW (k := 224) rfl (hts _ (wm 1 rfl)) dX10_path_1 ?_
  refine lv_iload_n hx hb dX10_path_4 rfl (lv_at hl 1 rfl) ?_
  obtain ⟨r_1, hc5, hr⟩ := ob1_e hr
  refine xk_q (va_runV (As := [.int x1]) (rest := []) ⟨hx, hb, hml, hown, hts⟩ (c_X8_pathAt l D cA ad M x1 hc5) (cwV 1 hts gX10_path_X8_pathAt rfl rfl rfl (by decide +kernel) ⟨Nat.le_of_ble_eq_true rfl, Nat.le_of_ble_eq_true rfl⟩) (xpreV hK hW (k := 0) rfl (by decide) rfl) rfl rfl hl.1 rfl (lv_room (Nat.le_of_ble_eq_true rfl)) dX10_path_5 ⟨Nat.le_of_ble_eq_true rfl, Nat.le_of_ble_eq_true rfl⟩) hW (fun H locs hW => ?_)
  cases r_1 with
  | none =>
    have hr : _ = _ := hr
    simp only [onl] at hr
    refine lv_astore_nN (lv' := [(3, .null), (0, .ref (ad 224)), (1, .int x1), (2, .int x2)]) hx hb dX10_path_8 rfl hl (by decide) rfl (fun ls hl => ?_)
    refine lv_aload_nN hx hb dX10_path_9 rfl (lv_at hl 0 rfl) ?_
    refine lv_ifnonnullN hx hb dX10_path_10 ?_
    refine lv_ldc (v := (-2000000001 : Int32)) hx hb hown (hts _ (wm 2 rfl)) dX10_path_13 ?_
    rw [← Option.some.inj hr]
    exact xiret hx hb hr0 hlocks hW adR_rf dX10_path_15
  | some k_2 =>
    simp only [onl] at hr
    obtain ⟨hk5, hr⟩ := chk_e hr
    have hk5 := of_decide_eq_true hk5
    refine lv_astore_n (lv' := [(3, .ref (ad k_2)), (0, .ref (ad 224)), (1, .int x1), (2, .int x2)]) hx hb dX10_path_8 rfl hl (by decide) rfl (fun ls hl => ?_)
    refine lv_aload_n hx hb dX10_path_9 rfl (lv_at hl 0 rfl) ?_
    refine lv_ifnonnull (tgt := 16) hx hb dX10_path_10 (by decide) ?_
    refine lv_aload_n hx hb dX10_path_16 rfl (lv_at hl 0 rfl) ?_
    refine lv_iload_n hx hb dX10_path_17 rfl (lv_at hl 3 rfl) ?_
    obtain ⟨r_3, hc18, hr⟩ := ob1_e hr
    refine xk_i (va_runV (As := [.int x2]) (rest := []) ⟨hx, hb, hml, hown, hts⟩ (c_X3_property l D cA ad M k_2 x2 hk5 hc18) (cwV 1 hts gX10_path_X3_property rfl rfl rfl (by decide +kernel) ⟨Nat.le_of_ble_eq_true rfl, Nat.le_of_ble_eq_true rfl⟩) (xpreV hK hW (k := k_2) hk5 (by decide) rfl) rfl rfl hl.1 rfl (lv_room (Nat.le_of_ble_eq_true rfl)) dX10_path_18 ⟨Nat.le_of_ble_eq_true rfl, Nat.le_of_ble_eq_true rfl⟩) hW (fun H locs hW => ?_)
    rw [← Option.some.inj hr]
    exact xiret hx hb hr0 hlocks hW adR_rf dX10_path_21

set_option maxHeartbeats 4000000 in
set_option maxRecDepth 100000 in
theorem c_X10_told (l : Launch) (D : va_G) (cA : Nat → ClassId) (ad : Nat → Nat) (M : Mm) (x1 : Int32) (x2 : Int32) {r : Int32} (hr : f_X10_told x1 x2 M = some r) : Met l yX10_told wsX10_told ({ frames := 1, cells := 0, slots := 0, locals := 22 }) (PcX D true cA ad M [.ref (ad 224), .int x1, .int x2]) (QiX false D true cA ad r M) 0 0 (AX true ad) := by
  refine Met.ofW (cc := cX10_told) (maxL := 5) (ret := (some .int)) (by decide) rfl ?_
  intro p e s m args below meth c s₁ B hml hv
  obtain ⟨hav, hP0, hK⟩ := hv
  have hx := B.exec
  have hb := B.bytes
  have hr0 := B.returns
  have hts := atoms_spec (ws := wsX10_told) B.pre
  have hown : s.vm.findClass RX10 = some m.cls := findClass_of_methodNamed B.named
  have hlocks := B.notSynchronized
  have hW := xstart hP0
  have hi3 : ∀ w ∈ wsX30, w ∈ wsX10_told := fun w h => List.mem_cons_of_mem _ (List.mem_append_left _ (List.mem_append_left _ (List.mem_append_right _ h)))
  have hi7 : ∀ w ∈ wsX70, w ∈ wsX10_told := fun w h => List.mem_cons_of_mem _ (List.mem_append_left _ (List.mem_append_right _ h))
  have hi10 : ∀ w ∈ wsX100, w ∈ wsX10_told := fun w h => List.mem_cons_of_mem _ (List.mem_append_left _ (List.mem_append_left _ (List.mem_append_left _ (List.mem_append_right _ h))))
  have hl := lv_entry ([.ref (ad 224), .int x1, .int x2]) (n := 5) (Nat.le_of_ble_eq_true rfl)
  have hef := lg_entry_eq m ([.ref (ad 224), .int x1, .int x2]) 5
  rw [← hav] at hef
  rw [hef]
  clear hef
  generalize (lg_sl ([.ref (ad 224), .int x1, .int x2]) ++ List.replicate (5 - (lg_sl ([.ref (ad 224), .int x1, .int x2])).length) Slot.unset).toArray = ls at hl ⊢
  have hl : lv_has ls 5 [(0, .ref (ad 224)), (1, .int x1), (2, .int x2)] := hl
  clear hP0
  unfold f_X10_told at hr
  refine lv_aload_n hx hb dX10_told_0 rfl (lv_at hl 0 rfl) ?_
  refine g10_0 hx hb hts hi10 hown hK hW (k := 224) rfl (hts _ (wm 1 rfl)) dX10_told_1 ?_
  refine lv_iload_n hx hb dX10_told_4 rfl (lv_at hl 1 rfl) ?_
  obtain ⟨r_1, hc5, hr⟩ := ob1_e hr
  refine xk_q (va_runV (As := [.int x1]) (rest := []) ⟨hx, hb, hml, hown, hts⟩ (c_X8_pathAt l D cA ad M x1 hc5) (cwV 1 hts gX10_told_X8_pathAt rfl rfl rfl (by decide +kernel) ⟨Nat.le_of_ble_eq_true rfl, Nat.le_of_ble_eq_true rfl⟩) (xpreV hK hW (k := 0) rfl (by decide) rfl) rfl rfl hl.1 rfl (lv_room (Nat.le_of_ble_eq_true rfl)) dX10_told_5 ⟨Nat.le_of_ble_eq_true rfl, Nat.le_of_ble_eq_true rfl⟩) hW (fun H locs hW => ?_)
  cases r_1 with
  | none =>
    have hr : _ = _ := hr
    simp only [onl] at hr
    refine lv_astore_nN (lv' := [(3, .null), (0, .ref (ad 224)), (1, .int x1), (2, .int x2)]) hx hb dX10_told_8 rfl hl (by decide) rfl (fun ls hl => ?_)
    refine lv_aload_nN hx hb dX10_told_9 rfl (lv_at hl 0 rfl) ?_
    refine lv_ifnonnullN hx hb dX10_told_10 ?_
    refine lv_ldc (v := (-2000000001 : Int32)) hx hb hown (hts _ (wm 2 rfl)) dX10_told_13 ?_
    rw [← Option.some.inj hr]
    exact xiret hx hb hr0 hlocks hW adR_rf dX10_told_15
  | some k_2 =>
    simp only [onl] at hr
    obtain ⟨hk5, hr⟩ := chk_e hr
    have hk5 := of_decide_eq_true hk5
    refine lv_astore_n (lv' := [(3, .ref (ad k_2)), (0, .ref (ad 224)), (1, .int x1), (2, .int x2)]) hx hb dX10_told_8 rfl hl (by decide) rfl (fun ls hl => ?_)
    refine lv_aload_n hx hb dX10_told_9 rfl (lv_at hl 0 rfl) ?_
    refine lv_ifnonnull (tgt := 16) hx hb dX10_told_10 (by decide) ?_
    refine lv_iload_n hx hb dX10_told_16 rfl (lv_at hl 3 rfl) ?_
    refine lv_iconst (v := (0 : Int32)) hx hb dX10_told_17 (by decide) ?_
    refine lv_iconst (v := (2 : Int32)) hx hb dX10_told_18 (by decide) ?_
    obtain ⟨r_3, hc19, hr⟩ := ob1_e hr
    refine xk_i (va_runS (As := [.int x2, .int (0 : Int32), .int (2 : Int32)]) (rest := []) ⟨hx, hb, hml, hown, hts⟩ (c_X10_isWithin l D cA ad M x2 (0 : Int32) (2 : Int32) hc19) (va_cwS 3 hts gX10_told_X10_isWithin rfl rfl rfl (by decide +kernel) ⟨Nat.le_of_ble_eq_true rfl, Nat.le_of_ble_eq_true rfl⟩) (xpreS hK hW) rfl rfl hl.1 rfl (lv_room (Nat.le_of_ble_eq_true rfl)) dX10_told_19 ⟨Nat.le_of_ble_eq_true rfl, Nat.le_of_ble_eq_true rfl⟩) hW (fun H locs hW => ?_)
    refine lv_if_ne (tgt := 28) hx hb dX10_told_22 (by decide) (fun c1 => ?_) (fun c1 => ?_)
    · have hr := br_n c1 hr
      refine lv_aload_n hx hb dX10_told_28 rfl (lv_at hl 0 rfl) ?_
      refine g3_15 hx hb hts hi3 hown hK hW (k := k_2) hk5 (hts _ (wm 4 rfl)) dX10_told_29 ?_
      refine lv_astore (lv' := [(4, .ref (ad (k_2 + 1))), (3, .ref (ad k_2)), (0, .ref (ad 224)), (1, .int x1), (2, .int x2)]) hx hb dX10_told_32 hl (by decide) rfl (fun ls hl => ?_)
      refine lv_aload hx hb dX10_told_34 (lv_at hl 0 rfl) ?_
      refine g7_0 hx hb hts hi7 hown hK hW (k := (k_2 + 1)) (ks_3s hk5) (hts _ (wm 5 rfl)) dX10_told_36 ?_
      refine lv_if_ne (tgt := 45) hx hb dX10_told_39 (by decide) (fun c1 => ?_) (fun c1 => ?_)
      · have hr := br_n c1 hr
        refine lv_iload_n hx hb dX10_told_45 rfl (lv_at hl 4 rfl) ?_
        refine lv_if_ne (tgt := 57) hx hb dX10_told_46 (by decide) (fun c1 => ?_) (fun c1 => ?_)
        · have hr := br_n c1 hr
          refine lv_iload_n hx hb dX10_told_57 rfl (lv_at hl 4 rfl) ?_
          refine lv_iconst (v := (1 : Int32)) hx hb dX10_told_58 (by decide) ?_
          refine lv_icmp_ne (tgt := 70) hx hb dX10_told_59 (by decide) (fun c1 => ?_) (fun c1 => ?_)
          · have hr := br_n c1 hr
            refine lv_aload hx hb dX10_told_70 (lv_at hl 0 rfl) ?_
            refine g7_3 hx hb hts hi7 hown hK hW (k := (k_2 + 1)) (ks_3s hk5) (hts _ (wm 9 rfl)) dX10_told_72 ?_
            rw [← Option.some.inj hr]
            exact xiret hx hb hr0 hlocks hW adR_rf dX10_told_75
          · have hr := br_p c1 hr
            refine lv_aload hx hb dX10_told_62 (lv_at hl 0 rfl) ?_
            refine g7_2 hx hb hts hi7 hown hK hW (k := (k_2 + 1)) (ks_3s hk5) (hts _ (wm 8 rfl)) dX10_told_64 ?_
            refine lv_goto (tgt := 75) hx hb dX10_told_67 (by decide) ?_
            rw [← Option.some.inj hr]
            exact xiret hx hb hr0 hlocks hW adR_rf dX10_told_75
        · have hr := br_p c1 hr
          refine lv_aload hx hb dX10_told_49 (lv_at hl 0 rfl) ?_
          refine g7_1 hx hb hts hi7 hown hK hW (k := (k_2 + 1)) (ks_3s hk5) (hts _ (wm 7 rfl)) dX10_told_51 ?_
          refine lv_goto (tgt := 75) hx hb dX10_told_54 (by decide) ?_
          rw [← Option.some.inj hr]
          exact xiret hx hb hr0 hlocks hW adR_rf dX10_told_75
      · have hr := br_p c1 hr
        refine lv_ldc (v := (-2000000005 : Int32)) hx hb hown (hts _ (wm 6 rfl)) dX10_told_42 ?_
        rw [← Option.some.inj hr]
        exact xiret hx hb hr0 hlocks hW adR_rf dX10_told_44
    · have hr := br_p c1 hr
      refine lv_ldc (v := (-2000000002 : Int32)) hx hb hown (hts _ (wm 3 rfl)) dX10_told_25 ?_
      rw [← Option.some.inj hr]
      exact xiret hx hb hr0 hlocks hW adR_rf dX10_told_27

set_option maxHeartbeats 4000000 in
set_option maxRecDepth 100000 in
theorem c_X10_sound (l : Launch) (D : va_G) (cA : Nat → ClassId) (ad : Nat → Nat) (M : Mm) (x1 : Int32) {r : Int64} (hr : f_X10_sound x1 M = some r) : Met l yX10_sound wsX10_sound ({ frames := 2, cells := 0, slots := 0, locals := 47 }) (PcX D true cA ad M [.ref (ad 224), .int x1]) (QlX false D true cA ad r M) 0 0 (AX true ad) := by
  refine Met.ofW (cc := cX10_sound) (maxL := 3) (ret := (some .long)) (by decide) rfl ?_
  intro p e s m args below meth c s₁ B hml hv
  obtain ⟨hav, hP0, hK⟩ := hv
  have hx := B.exec
  have hb := B.bytes
  have hr0 := B.returns
  have hts := atoms_spec (ws := wsX10_sound) B.pre
  have hown : s.vm.findClass RX10 = some m.cls := findClass_of_methodNamed B.named
  have hlocks := B.notSynchronized
  have hW := xstart hP0
  have hi3 : ∀ w ∈ wsX30, w ∈ wsX10_sound := fun w h => List.mem_cons_of_mem _ (List.mem_append_left _ (List.mem_append_right _ h))
  have hi10 : ∀ w ∈ wsX100, w ∈ wsX10_sound := fun w h => List.mem_cons_of_mem _ (List.mem_append_left _ (List.mem_append_left _ (List.mem_append_right _ h)))
  have hl := lv_entry ([.ref (ad 224), .int x1]) (n := 3) (Nat.le_of_ble_eq_true rfl)
  have hef := lg_entry_eq m ([.ref (ad 224), .int x1]) 3
  rw [← hav] at hef
  rw [hef]
  clear hef
  generalize (lg_sl ([.ref (ad 224), .int x1]) ++ List.replicate (3 - (lg_sl ([.ref (ad 224), .int x1])).length) Slot.unset).toArray = ls at hl ⊢
  have hl : lv_has ls 3 [(0, .ref (ad 224)), (1, .int x1)] := hl
  clear hP0
  unfold f_X10_sound at hr
  refine lv_aload_n hx hb dX10_sound_0 rfl (lv_at hl 0 rfl) ?_
  refine g10_0 hx hb hts hi10 hown hK hW (k := 224) rfl (hts _ (wm 1 rfl)) dX10_sound_1 ?_
  refine lv_iload_n hx hb dX10_sound_4 rfl (lv_at hl 1 rfl) ?_
  obtain ⟨r_1, hc5, hr⟩ := ob1_e hr
  refine xk_q (va_runV (As := [.int x1]) (rest := []) ⟨hx, hb, hml, hown, hts⟩ (c_X8_pathAt l D cA ad M x1 hc5) (cwV 1 hts gX10_sound_X8_pathAt rfl rfl rfl (by decide +kernel) ⟨Nat.le_of_ble_eq_true rfl, Nat.le_of_ble_eq_true rfl⟩) (xpreV hK hW (k := 0) rfl (by decide) rfl) rfl rfl hl.1 rfl (lv_room (Nat.le_of_ble_eq_true rfl)) dX10_sound_5 ⟨Nat.le_of_ble_eq_true rfl, Nat.le_of_ble_eq_true rfl⟩) hW (fun H locs hW => ?_)
  cases r_1 with
  | none =>
    have hr : _ = _ := hr
    simp only [onl] at hr
    refine lv_astore_nN (lv' := [(2, .null), (0, .ref (ad 224)), (1, .int x1)]) hx hb dX10_sound_8 rfl hl (by decide) rfl (fun ls hl => ?_)
    refine lv_aload_nN hx hb dX10_sound_9 rfl (lv_at hl 0 rfl) ?_
    refine lv_ifnonnullN hx hb dX10_sound_10 ?_
    refine lv_ldc2 (v := (-2000000001 : Int64)) hx hb hown (hts _ (wm 2 rfl)) dX10_sound_13 ?_
    rw [← Option.some.inj hr]
    exact xlret hx hb hr0 hlocks hW adR_rf dX10_sound_16
  | some k_2 =>
    simp only [onl] at hr
    obtain ⟨hk5, hr⟩ := chk_e hr
    have hk5 := of_decide_eq_true hk5
    refine lv_astore_n (lv' := [(2, .ref (ad k_2)), (0, .ref (ad 224)), (1, .int x1)]) hx hb dX10_sound_8 rfl hl (by decide) rfl (fun ls hl => ?_)
    refine lv_aload_n hx hb dX10_sound_9 rfl (lv_at hl 0 rfl) ?_
    refine lv_ifnonnull (tgt := 17) hx hb dX10_sound_10 (by decide) ?_
    refine lv_aload_n hx hb dX10_sound_17 rfl (lv_at hl 0 rfl) ?_
    refine g3_5 hx hb hts hi3 hown hK hW (k := k_2) hk5 (hts _ (wm 3 rfl)) dX10_sound_18 ?_
    refine lv_if_eq (tgt := 31) hx hb dX10_sound_21 (by decide) (fun c1 => ?_) (fun c1 => ?_)
    · have hr := br_p c1 hr
      refine lv_ldc2 (v := (-2000000005 : Int64)) hx hb hown (hts _ (wm 4 rfl)) dX10_sound_31 ?_
      rw [← Option.some.inj hr]
      exact xlret hx hb hr0 hlocks hW adR_rf dX10_sound_34
    · have hr := br_n c1 hr
      refine lv_aload_n hx hb dX10_sound_24 rfl (lv_at hl 0 rfl) ?_
      obtain ⟨r_3, hc25, hr⟩ := ob1_e hr
      refine xk_l (va_runV (As := []) (rest := []) ⟨hx, hb, hml, hown, hts⟩ (c_X3_speedOfSound l D cA ad M k_2 hk5 hc25) (cwV 0 hts gX10_sound_X3_speedOfSound rfl rfl rfl (by decide +kernel) ⟨Nat.le_of_ble_eq_true rfl, Nat.le_of_ble_eq_true rfl⟩) (xpreV hK hW (k := k_2) hk5 (by decide) rfl) rfl rfl hl.1 rfl (lv_room (Nat.le_of_ble_eq_true rfl)) dX10_sound_25 ⟨Nat.le_of_ble_eq_true rfl, Nat.le_of_ble_eq_true rfl⟩) hW (fun H locs hW => ?_)
      refine lv_goto (tgt := 34) hx hb dX10_sound_28 (by decide) ?_
      rw [← Option.some.inj hr]
      exact xlret hx hb hr0 hlocks hW adR_rf dX10_sound_34

set_option maxHeartbeats 4000000 in
set_option maxRecDepth 100000 in
theorem c_X10_factor (l : Launch) (D : va_G) (cA : Nat → ClassId) (ad : Nat → Nat) (M : Mm) (x1 : Int32) {r : Int32} (hr : f_X10_factor x1 M = some r) : Met l yX10_factor wsX10_factor ({ frames := 2, cells := 0, slots := 0, locals := 58 }) (PcX D true cA ad M [.ref (ad 224), .int x1]) (QiX false D true cA ad r M) 0 0 (AX true ad) := by
  refine Met.ofW (cc := cX10_factor) (maxL := 2) (ret := (some .int)) (by decide) rfl ?_
  intro p e s m args below meth c s₁ B hml hv
  obtain ⟨hav, hP0, hK⟩ := hv
  have hx := B.exec
  have hb := B.bytes
  have hr0 := B.returns
  have hts := atoms_spec (ws := wsX10_factor) B.pre
  have hown : s.vm.findClass RX10 = some m.cls := findClass_of_methodNamed B.named
  have hlocks := B.notSynchronized
  have hW := xstart hP0
  have hi8 : ∀ w ∈ wsX80, w ∈ wsX10_factor := fun w h => List.mem_cons_of_mem _ (List.mem_append_left _ (List.mem_append_right _ h))
  have hi10 : ∀ w ∈ wsX100, w ∈ wsX10_factor := fun w h => List.mem_cons_of_mem _ (List.mem_append_left _ (List.mem_append_left _ (List.mem_append_right _ h)))
  have hl := lv_entry ([.ref (ad 224), .int x1]) (n := 2) (Nat.le_of_ble_eq_true rfl)
  have hef := lg_entry_eq m ([.ref (ad 224), .int x1]) 2
  rw [← hav] at hef
  rw [hef]
  clear hef
  generalize (lg_sl ([.ref (ad 224), .int x1]) ++ List.replicate (2 - (lg_sl ([.ref (ad 224), .int x1])).length) Slot.unset).toArray = ls at hl ⊢
  have hl : lv_has ls 2 [(0, .ref (ad 224)), (1, .int x1)] := hl
  clear hP0
  unfold f_X10_factor at hr
  refine lv_iload_n hx hb dX10_factor_0 rfl (lv_at hl 1 rfl) ?_
  refine lv_ldc (v := (-100000 : Int32)) hx hb hown (hts _ (wm 1 rfl)) dX10_factor_1 ?_
  refine lv_ldc (v := (100000 : Int32)) hx hb hown (hts _ (wm 2 rfl)) dX10_factor_3 ?_
  obtain ⟨r_1, hc5, hr⟩ := ob1_e hr
  refine xk_i (va_runS (As := [.int x1, .int (-100000 : Int32), .int (100000 : Int32)]) (rest := []) ⟨hx, hb, hml, hown, hts⟩ (c_X10_isWithin l D cA ad M x1 (-100000 : Int32) (100000 : Int32) hc5) (va_cwS 3 hts gX10_factor_X10_isWithin rfl rfl rfl (by decide +kernel) ⟨Nat.le_of_ble_eq_true rfl, Nat.le_of_ble_eq_true rfl⟩) (xpreS hK hW) rfl rfl hl.1 rfl (lv_room (Nat.le_of_ble_eq_true rfl)) dX10_factor_5 ⟨Nat.le_of_ble_eq_true rfl, Nat.le_of_ble_eq_true rfl⟩) hW (fun H locs hW => ?_)
  refine lv_if_ne (tgt := 14) hx hb dX10_factor_8 (by decide) (fun c1 => ?_) (fun c1 => ?_)
  · have hr := br_n c1 hr
    refine lv_aload_n hx hb dX10_factor_14 rfl (lv_at hl 0 rfl) ?_
    refine g10_0 hx hb hts hi10 hown hK hW (k := 224) rfl (hts _ (wm 4 rfl)) dX10_factor_15 ?_
    refine g8_2 hx hb hts hi8 hown hK hW (k := 0) rfl (hts _ (wm 5 rfl)) dX10_factor_18 ?_
    refine lv_iload_n hx hb dX10_factor_21 rfl (lv_at hl 1 rfl) ?_
    obtain ⟨r_2, hc22, hr⟩ := ob1_e hr
    refine xk_i (va_runV (As := [.int x1]) (rest := []) ⟨hx, hb, hml, hown, hts⟩ (c_X4_factorFor l D cA ad M x1 hc22) (cwV 1 hts gX10_factor_X4_factorFor rfl rfl rfl (by decide +kernel) ⟨Nat.le_of_ble_eq_true rfl, Nat.le_of_ble_eq_true rfl⟩) (xpreV hK hW (k := 10) rfl (by decide) rfl) rfl rfl hl.1 rfl (lv_room (Nat.le_of_ble_eq_true rfl)) dX10_factor_22 ⟨Nat.le_of_ble_eq_true rfl, Nat.le_of_ble_eq_true rfl⟩) hW (fun H locs hW => ?_)
    rw [← Option.some.inj hr]
    exact xiret hx hb hr0 hlocks hW adR_rf dX10_factor_25
  · have hr := br_p c1 hr
    refine lv_ldc (v := (-2000000002 : Int32)) hx hb hown (hts _ (wm 3 rfl)) dX10_factor_11 ?_
    rw [← Option.some.inj hr]
    exact xiret hx hb hr0 hlocks hW adR_rf dX10_factor_13

set_option maxHeartbeats 4000000 in
set_option maxRecDepth 100000 in
theorem c_X10_round (l : Launch) (D : va_G) (cA : Nat → ClassId) (ad : Nat → Nat) (M : Mm) (x1 : Int32) (x2 : Int32) {r : Int32} (hr : f_X10_round x1 x2 M = some r) : Met l yX10_round wsX10_round ({ frames := 1, cells := 0, slots := 0, locals := 21 }) (PcX D true cA ad M [.ref (ad 224), .int x1, .int x2]) (QiX false D true cA ad r M) 0 0 (AX true ad) := by
  refine Met.ofW (cc := cX10_round) (maxL := 4) (ret := (some .int)) (by decide) rfl ?_
  intro p e s m args below meth c s₁ B hml hv
  obtain ⟨hav, hP0, hK⟩ := hv
  have hx := B.exec
  have hb := B.bytes
  have hr0 := B.returns
  have hts := atoms_spec (ws := wsX10_round) B.pre
  have hown : s.vm.findClass RX10 = some m.cls := findClass_of_methodNamed B.named
  have hlocks := B.notSynchronized
  have hW := xstart hP0
  have hi5 : ∀ w ∈ wsX50, w ∈ wsX10_round := fun w h => List.mem_cons_of_mem _ (List.mem_append_left _ (List.mem_append_right _ h))
  have hi8 : ∀ w ∈ wsX80, w ∈ wsX10_round := fun w h => List.mem_cons_of_mem _ (List.mem_append_left _ (List.mem_append_left _ (List.mem_append_right _ h)))
  have hi10 : ∀ w ∈ wsX100, w ∈ wsX10_round := fun w h => List.mem_cons_of_mem _ (List.mem_append_left _ (List.mem_append_left _ (List.mem_append_left _ (List.mem_append_right _ h))))
  have hl := lv_entry ([.ref (ad 224), .int x1, .int x2]) (n := 4) (Nat.le_of_ble_eq_true rfl)
  have hef := lg_entry_eq m ([.ref (ad 224), .int x1, .int x2]) 4
  rw [← hav] at hef
  rw [hef]
  clear hef
  generalize (lg_sl ([.ref (ad 224), .int x1, .int x2]) ++ List.replicate (4 - (lg_sl ([.ref (ad 224), .int x1, .int x2])).length) Slot.unset).toArray = ls at hl ⊢
  have hl : lv_has ls 4 [(0, .ref (ad 224)), (1, .int x1), (2, .int x2)] := hl
  clear hP0
  unfold f_X10_round at hr
  refine lv_aload_n hx hb dX10_round_0 rfl (lv_at hl 0 rfl) ?_
  refine g10_0 hx hb hts hi10 hown hK hW (k := 224) rfl (hts _ (wm 1 rfl)) dX10_round_1 ?_
  refine g8_5 hx hb hts hi8 hown hK hW (k := 0) rfl (hts _ (wm 2 rfl)) dX10_round_4 ?_
  refine lv_iload_n hx hb dX10_round_7 rfl (lv_at hl 1 rfl) ?_
  obtain ⟨r_1, hc8, hr⟩ := ob1_e hr
  refine xk_q (va_runV (As := [.int x1]) (rest := []) ⟨hx, hb, hml, hown, hts⟩ (c_X6_latest l D cA ad M x1 hc8) (cwV 1 hts gX10_round_X6_latest rfl rfl rfl (by decide +kernel) ⟨Nat.le_of_ble_eq_true rfl, Nat.le_of_ble_eq_true rfl⟩) (xpreV hK hW (k := 14) rfl (by decide) rfl) rfl rfl hl.1 rfl (lv_room (Nat.le_of_ble_eq_true rfl)) dX10_round_8 ⟨Nat.le_of_ble_eq_true rfl, Nat.le_of_ble_eq_true rfl⟩) hW (fun H locs hW => ?_)
  cases r_1 with
  | none =>
    have hr : _ = _ := hr
    simp only [onl] at hr
    refine lv_astore_nN (lv' := [(3, .null), (0, .ref (ad 224)), (1, .int x1), (2, .int x2)]) hx hb dX10_round_11 rfl hl (by decide) rfl (fun ls hl => ?_)
    refine lv_aload_nN hx hb dX10_round_12 rfl (lv_at hl 0 rfl) ?_
    refine lv_ifnonnullN hx hb dX10_round_13 ?_
    refine lv_ldc (v := (-2000000001 : Int32)) hx hb hown (hts _ (wm 3 rfl)) dX10_round_16 ?_
    rw [← Option.some.inj hr]
    exact xiret hx hb hr0 hlocks hW adR_rf dX10_round_18
  | some k_2 =>
    simp only [onl] at hr
    obtain ⟨hk8, hr⟩ := chk_e hr
    have hk8 := of_decide_eq_true hk8
    refine lv_astore_n (lv' := [(3, .ref (ad k_2)), (0, .ref (ad 224)), (1, .int x1), (2, .int x2)]) hx hb dX10_round_11 rfl hl (by decide) rfl (fun ls hl => ?_)
    refine lv_aload_n hx hb dX10_round_12 rfl (lv_at hl 0 rfl) ?_
    refine lv_ifnonnull (tgt := 19) hx hb dX10_round_13 (by decide) ?_
    refine lv_iload_n hx hb dX10_round_19 rfl (lv_at hl 3 rfl) ?_
    by_cases c20_0 : x2 = (0 : Int32)
    · have hr := br_p c20_0 hr
      refine lv_tableIn (tgt := 60) hx hb dX10_round_20 (by rw [c20_0]; decide) (by rw [c20_0]; decide) (off := 40) (by rw [c20_0]; decide) (by decide) ?_
      refine lv_aload_n hx hb dX10_round_60 rfl (lv_at hl 0 rfl) ?_
      refine g5_0 hx hb hts hi5 hown hK hW (k := k_2) hk8 (hts _ (wm 4 rfl)) dX10_round_61 ?_
      rw [← Option.some.inj hr]
      exact xiret hx hb hr0 hlocks hW adR_rf dX10_round_64
    · have hr := br_n c20_0 hr
      by_cases c20_1 : x2 = (1 : Int32)
      · have hr := br_p c20_1 hr
        refine lv_tableIn (tgt := 65) hx hb dX10_round_20 (by rw [c20_1]; decide) (by rw [c20_1]; decide) (off := 45) (by rw [c20_1]; decide) (by decide) ?_
        refine lv_aload_n hx hb dX10_round_65 rfl (lv_at hl 0 rfl) ?_
        refine g5_1 hx hb hts hi5 hown hK hW (k := k_2) hk8 (hts _ (wm 5 rfl)) dX10_round_66 ?_
        rw [← Option.some.inj hr]
        exact xiret hx hb hr0 hlocks hW adR_rf dX10_round_69
      · have hr := br_n c20_1 hr
        by_cases c20_2 : x2 = (2 : Int32)
        · have hr := br_p c20_2 hr
          refine lv_tableIn (tgt := 70) hx hb dX10_round_20 (by rw [c20_2]; decide) (by rw [c20_2]; decide) (off := 50) (by rw [c20_2]; decide) (by decide) ?_
          refine lv_aload_n hx hb dX10_round_70 rfl (lv_at hl 0 rfl) ?_
          refine g5_2 hx hb hts hi5 hown hK hW (k := k_2) hk8 (hts _ (wm 6 rfl)) dX10_round_71 ?_
          rw [← Option.some.inj hr]
          exact xiret hx hb hr0 hlocks hW adR_rf dX10_round_74
        · have hr := br_n c20_2 hr
          by_cases c20_3 : x2 = (3 : Int32)
          · have hr := br_p c20_3 hr
            refine lv_tableIn (tgt := 75) hx hb dX10_round_20 (by rw [c20_3]; decide) (by rw [c20_3]; decide) (off := 55) (by rw [c20_3]; decide) (by decide) ?_
            refine lv_aload_n hx hb dX10_round_75 rfl (lv_at hl 0 rfl) ?_
            refine g5_3 hx hb hts hi5 hown hK hW (k := k_2) hk8 (hts _ (wm 7 rfl)) dX10_round_76 ?_
            rw [← Option.some.inj hr]
            exact xiret hx hb hr0 hlocks hW adR_rf dX10_round_79
          · have hr := br_n c20_3 hr
            by_cases c20_4 : x2 = (4 : Int32)
            · have hr := br_p c20_4 hr
              refine lv_tableIn (tgt := 80) hx hb dX10_round_20 (by rw [c20_4]; decide) (by rw [c20_4]; decide) (off := 60) (by rw [c20_4]; decide) (by decide) ?_
              refine lv_aload_n hx hb dX10_round_80 rfl (lv_at hl 0 rfl) ?_
              refine g5_4 hx hb hts hi5 hown hK hW (k := k_2) hk8 (hts _ (wm 8 rfl)) dX10_round_81 ?_
              rw [← Option.some.inj hr]
              exact xiret hx hb hr0 hlocks hW adR_rf dX10_round_84
            · have hr := br_n c20_4 hr
              by_cases c20_5 : x2 = (5 : Int32)
              · have hr := br_p c20_5 hr
                refine lv_tableIn (tgt := 85) hx hb dX10_round_20 (by rw [c20_5]; decide) (by rw [c20_5]; decide) (off := 65) (by rw [c20_5]; decide) (by decide) ?_
                refine lv_aload_n hx hb dX10_round_85 rfl (lv_at hl 0 rfl) ?_
                refine g5_5 hx hb hts hi5 hown hK hW (k := k_2) hk8 (hts _ (wm 9 rfl)) dX10_round_86 ?_
                rw [← Option.some.inj hr]
                exact xiret hx hb hr0 hlocks hW adR_rf dX10_round_89
              · have hr := br_n c20_5 hr
                have hsw : x2.toInt < 0 ∨ 5 < x2.toInt := by
                  have hsw0 := lv_neT c20_0 (a := 0) rfl
                  have hsw1 := lv_neT c20_1 (a := 1) rfl
                  have hsw2 := lv_neT c20_2 (a := 2) rfl
                  have hsw3 := lv_neT c20_3 (a := 3) rfl
                  have hsw4 := lv_neT c20_4 (a := 4) rfl
                  have hsw5 := lv_neT c20_5 (a := 5) rfl
                  omega
                refine lv_tableOut (tgt := 90) hx hb dX10_round_20 hsw (by decide) ?_
                refine lv_ldc (v := (-2000000002 : Int32)) hx hb hown (hts _ (wm 10 rfl)) dX10_round_90 ?_
                rw [← Option.some.inj hr]
                exact xiret hx hb hr0 hlocks hW adR_rf dX10_round_92

set_option maxHeartbeats 4000000 in
set_option maxRecDepth 100000 in
theorem c_X10_volume (l : Launch) (D : va_G) (cA : Nat → ClassId) (ad : Nat → Nat) (M : Mm) (x1 : Int32) {r : Int64} (hr : f_X10_volume x1 M = some r) : Met l yX10_volume wsX10_volume ({ frames := 0, cells := 0, slots := 0, locals := 0 }) (PcX D true cA ad M [.ref (ad 224), .int x1]) (QlX false D true cA ad r M) 0 0 (AX true ad) := by
  refine Met.ofW (cc := cX10_volume) (maxL := 2) (ret := (some .long)) (by decide) rfl ?_
  intro p e s m args below meth c s₁ B hml hv
  obtain ⟨hav, hP0, hK⟩ := hv
  have hx := B.exec
  have hb := B.bytes
  have hr0 := B.returns
  have hts := atoms_spec (ws := wsX10_volume) B.pre
  have hown : s.vm.findClass RX10 = some m.cls := findClass_of_methodNamed B.named
  have hlocks := B.notSynchronized
  have hW := xstart hP0
  have hi8 : ∀ w ∈ wsX80, w ∈ wsX10_volume := fun w h => List.mem_cons_of_mem _ (List.mem_append_right _ h)
  have hi10 : ∀ w ∈ wsX100, w ∈ wsX10_volume := fun w h => List.mem_cons_of_mem _ (List.mem_append_left _ (List.mem_append_right _ h))
  have hl := lv_entry ([.ref (ad 224), .int x1]) (n := 2) (Nat.le_of_ble_eq_true rfl)
  have hef := lg_entry_eq m ([.ref (ad 224), .int x1]) 2
  rw [← hav] at hef
  rw [hef]
  clear hef
  generalize (lg_sl ([.ref (ad 224), .int x1]) ++ List.replicate (2 - (lg_sl ([.ref (ad 224), .int x1])).length) Slot.unset).toArray = ls at hl ⊢
  have hl : lv_has ls 2 [(0, .ref (ad 224)), (1, .int x1)] := hl
  clear hP0
  unfold f_X10_volume at hr
  refine lv_iload_n hx hb dX10_volume_0 rfl (lv_at hl 1 rfl) ?_
  by_cases c1_0 : x1 = (0 : Int32)
  · have hr := br_p c1_0 hr
    refine lv_tableIn (tgt := 28) hx hb dX10_volume_1 (by rw [c1_0]; decide) (by rw [c1_0]; decide) (off := 27) (by rw [c1_0]; decide) (by decide) ?_
    refine lv_aload_n hx hb dX10_volume_28 rfl (lv_at hl 0 rfl) ?_
    refine g10_0 hx hb hts hi10 hown hK hW (k := 224) rfl (hts _ (wm 1 rfl)) dX10_volume_29 ?_
    refine g8_8 hx hb hts hi8 hown hK hW (k := 0) rfl (hts _ (wm 2 rfl)) dX10_volume_32 ?_
    rw [← Option.some.inj hr]
    exact xlret hx hb hr0 hlocks hW adR_rf dX10_volume_35
  · have hr := br_n c1_0 hr
    by_cases c1_1 : x1 = (1 : Int32)
    · have hr := br_p c1_1 hr
      refine lv_tableIn (tgt := 36) hx hb dX10_volume_1 (by rw [c1_1]; decide) (by rw [c1_1]; decide) (off := 35) (by rw [c1_1]; decide) (by decide) ?_
      refine lv_aload_n hx hb dX10_volume_36 rfl (lv_at hl 0 rfl) ?_
      refine g10_0 hx hb hts hi10 hown hK hW (k := 224) rfl (hts _ (wm 1 rfl)) dX10_volume_37 ?_
      refine g8_9 hx hb hts hi8 hown hK hW (k := 0) rfl (hts _ (wm 3 rfl)) dX10_volume_40 ?_
      rw [← Option.some.inj hr]
      exact xlret hx hb hr0 hlocks hW adR_rf dX10_volume_43
    · have hr := br_n c1_1 hr
      by_cases c1_2 : x1 = (2 : Int32)
      · have hr := br_p c1_2 hr
        refine lv_tableIn (tgt := 44) hx hb dX10_volume_1 (by rw [c1_2]; decide) (by rw [c1_2]; decide) (off := 43) (by rw [c1_2]; decide) (by decide) ?_
        refine lv_aload_n hx hb dX10_volume_44 rfl (lv_at hl 0 rfl) ?_
        refine g10_0 hx hb hts hi10 hown hK hW (k := 224) rfl (hts _ (wm 1 rfl)) dX10_volume_45 ?_
        refine g8_8 hx hb hts hi8 hown hK hW (k := 0) rfl (hts _ (wm 2 rfl)) dX10_volume_48 ?_
        refine lv_aload_n hx hb dX10_volume_51 rfl (lv_at hl 0 rfl) ?_
        refine g10_0 hx hb hts hi10 hown hK hW (k := 224) rfl (hts _ (wm 1 rfl)) dX10_volume_52 ?_
        refine g8_9 hx hb hts hi8 hown hK hW (k := 0) rfl (hts _ (wm 3 rfl)) dX10_volume_55 ?_
        refine lv_lsub hx hb dX10_volume_58 ?_
        rw [← Option.some.inj hr]
        exact xlret hx hb hr0 hlocks hW adR_rf dX10_volume_59
      · have hr := br_n c1_2 hr
        have hsw : x1.toInt < 0 ∨ 2 < x1.toInt := by
          have hsw0 := lv_neT c1_0 (a := 0) rfl
          have hsw1 := lv_neT c1_1 (a := 1) rfl
          have hsw2 := lv_neT c1_2 (a := 2) rfl
          omega
        refine lv_tableOut (tgt := 60) hx hb dX10_volume_1 hsw (by decide) ?_
        refine lv_ldc2 (v := (-2000000002 : Int64)) hx hb hown (hts _ (wm 4 rfl)) dX10_volume_60 ?_
        rw [← Option.some.inj hr]
        exact xlret hx hb hr0 hlocks hW adR_rf dX10_volume_63

set_option maxHeartbeats 4000000 in
set_option maxRecDepth 100000 in
theorem c_X10_statistic (l : Launch) (D : va_G) (cA : Nat → ClassId) (ad : Nat → Nat) (M : Mm) (x1 : Int32) {r : Int32} (hr : f_X10_statistic x1 M = some r) : Met l yX10_statistic wsX10_statistic ({ frames := 3, cells := 0, slots := 0, locals := 67 }) (PcX D true cA ad M [.ref (ad 224), .int x1]) (QiX false D true cA ad r M) 0 0 (AX true ad) := by
  refine Met.ofW (cc := cX10_statistic) (maxL := 4) (ret := (some .int)) (by decide) rfl ?_
  intro p e s m args below meth c s₁ B hml hv
  obtain ⟨hav, hP0, hK⟩ := hv
  have hx := B.exec
  have hb := B.bytes
  have hr0 := B.returns
  have hts := atoms_spec (ws := wsX10_statistic) B.pre
  have hown : s.vm.findClass RX10 = some m.cls := findClass_of_methodNamed B.named
  have hlocks := B.notSynchronized
  have hW := xstart hP0
  have hi8 : ∀ w ∈ wsX80, w ∈ wsX10_statistic := fun w h => List.mem_cons_of_mem _ (List.mem_append_left _ (List.mem_append_left _ (List.mem_append_right _ h)))
  have hi10 : ∀ w ∈ wsX100, w ∈ wsX10_statistic := fun w h => List.mem_cons_of_mem _ (List.mem_append_left _ (List.mem_append_left _ (List.mem_append_left _ (List.mem_append_right _ h))))
  have hl := lv_entry ([.ref (ad 224), .int x1]) (n := 4) (Nat.le_of_ble_eq_true rfl)
  have hef := lg_entry_eq m ([.ref (ad 224), .int x1]) 4
  rw [← hav] at hef
  rw [hef]
  clear hef
  generalize (lg_sl ([.ref (ad 224), .int x1]) ++ List.replicate (4 - (lg_sl ([.ref (ad 224), .int x1])).length) Slot.unset).toArray = ls at hl ⊢
  have hl : lv_has ls 4 [(0, .ref (ad 224)), (1, .int x1)] := hl
  clear hP0
  unfold f_X10_statistic at hr
  refine lv_iload_n hx hb dX10_statistic_0 rfl (lv_at hl 1 rfl) ?_
  refine lv_iconst (v := (0 : Int32)) hx hb dX10_statistic_1 (by decide) ?_
  refine lv_iconst (v := (4 : Int32)) hx hb dX10_statistic_2 (by decide) ?_
  obtain ⟨r_1, hc3, hr⟩ := ob1_e hr
  refine xk_i (va_runS (As := [.int x1, .int (0 : Int32), .int (4 : Int32)]) (rest := []) ⟨hx, hb, hml, hown, hts⟩ (c_X10_isWithin l D cA ad M x1 (0 : Int32) (4 : Int32) hc3) (va_cwS 3 hts gX10_statistic_X10_isWithin rfl rfl rfl (by decide +kernel) ⟨Nat.le_of_ble_eq_true rfl, Nat.le_of_ble_eq_true rfl⟩) (xpreS hK hW) rfl rfl hl.1 rfl (lv_room (Nat.le_of_ble_eq_true rfl)) dX10_statistic_3 ⟨Nat.le_of_ble_eq_true rfl, Nat.le_of_ble_eq_true rfl⟩) hW (fun H locs hW => ?_)
  refine lv_if_ne (tgt := 12) hx hb dX10_statistic_6 (by decide) (fun c1 => ?_) (fun c1 => ?_)
  · have hr := br_n c1 hr
    refine lv_aload_n hx hb dX10_statistic_12 rfl (lv_at hl 0 rfl) ?_
    refine g10_0 hx hb hts hi10 hown hK hW (k := 224) rfl (hts _ (wm 2 rfl)) dX10_statistic_13 ?_
    refine g8_5 hx hb hts hi8 hown hK hW (k := 0) rfl (hts _ (wm 3 rfl)) dX10_statistic_16 ?_
    refine lv_astore_n (lv' := [(2, .ref (ad 14)), (0, .ref (ad 224)), (1, .int x1)]) hx hb dX10_statistic_19 rfl hl (by decide) rfl (fun ls hl => ?_)
    refine lv_aload_n hx hb dX10_statistic_20 rfl (lv_at hl 0 rfl) ?_
    obtain ⟨r_2, hc21, hr⟩ := ob1_e hr
    refine xk_i (va_runV (As := []) (rest := []) ⟨hx, hb, hml, hown, hts⟩ (c_X6_measuredCount l D cA ad M hc21) (cwV 0 hts gX10_statistic_X6_measuredCount rfl rfl rfl (by decide +kernel) ⟨Nat.le_of_ble_eq_true rfl, Nat.le_of_ble_eq_true rfl⟩) (xpreV hK hW (k := 14) rfl (by decide) rfl) rfl rfl hl.1 rfl (lv_room (Nat.le_of_ble_eq_true rfl)) dX10_statistic_21 ⟨Nat.le_of_ble_eq_true rfl, Nat.le_of_ble_eq_true rfl⟩) hW (fun H locs hW => ?_)
    refine lv_istore_n (lv' := [(3, .int r_2), (2, .ref (ad 14)), (0, .ref (ad 224)), (1, .int x1)]) hx hb dX10_statistic_24 rfl hl (by decide) rfl (fun ls hl => ?_)
    refine lv_iload_n hx hb dX10_statistic_25 rfl (lv_at hl 3 rfl) ?_
    refine lv_if_ne (tgt := 31) hx hb dX10_statistic_26 (by decide) (fun c1 => ?_) (fun c1 => ?_)
    · have hr := br_n c1 hr
      refine lv_iload_n hx hb dX10_statistic_31 rfl (lv_at hl 0 rfl) ?_
      refine lv_if_ne (tgt := 38) hx hb dX10_statistic_32 (by decide) (fun c1 => ?_) (fun c1 => ?_)
      · have hr := br_n c1 hr
        refine lv_iload_n hx hb dX10_statistic_38 rfl (lv_at hl 3 rfl) ?_
        by_cases c39_0 : x1 = (1 : Int32)
        · have hr := br_p c39_0 hr
          refine lv_tableIn (tgt := 64) hx hb dX10_statistic_39 (by rw [c39_0]; decide) (by rw [c39_0]; decide) (off := 25) (by rw [c39_0]; decide) (by decide) ?_
          refine lv_aload_n hx hb dX10_statistic_64 rfl (lv_at hl 1 rfl) ?_
          refine lv_iconst (v := (0 : Int32)) hx hb dX10_statistic_65 (by decide) ?_
          obtain ⟨r_3, hc66, hr⟩ := ob1_e hr
          refine xk_i (va_runV (As := [.int (0 : Int32)]) (rest := []) ⟨hx, hb, hml, hown, hts⟩ (c_X6_ranked l D cA ad M (0 : Int32) hc66) (cwV 1 hts gX10_statistic_X6_ranked rfl rfl rfl (by decide +kernel) ⟨Nat.le_of_ble_eq_true rfl, Nat.le_of_ble_eq_true rfl⟩) (xpreV hK hW (k := 14) rfl (by decide) rfl) rfl rfl hl.1 rfl (lv_room (Nat.le_of_ble_eq_true rfl)) dX10_statistic_66 ⟨Nat.le_of_ble_eq_true rfl, Nat.le_of_ble_eq_true rfl⟩) hW (fun H locs hW => ?_)
          rw [← Option.some.inj hr]
          exact xiret hx hb hr0 hlocks hW adR_rf dX10_statistic_69
        · have hr := br_n c39_0 hr
          by_cases c39_1 : x1 = (2 : Int32)
          · have hr := br_p c39_1 hr
            refine lv_tableIn (tgt := 70) hx hb dX10_statistic_39 (by rw [c39_1]; decide) (by rw [c39_1]; decide) (off := 31) (by rw [c39_1]; decide) (by decide) ?_
            refine lv_aload_n hx hb dX10_statistic_70 rfl (lv_at hl 1 rfl) ?_
            refine lv_iload_n hx hb dX10_statistic_71 rfl (lv_at hl 0 rfl) ?_
            refine lv_iconst (v := (1 : Int32)) hx hb dX10_statistic_72 (by decide) ?_
            refine lv_isub hx hb dX10_statistic_73 ?_
            obtain ⟨r_4, hc74, hr⟩ := ob1_e hr
            refine xk_i (va_runV (As := [.int (r_2 - (1 : Int32))]) (rest := []) ⟨hx, hb, hml, hown, hts⟩ (c_X6_ranked l D cA ad M (r_2 - (1 : Int32)) hc74) (cwV 1 hts gX10_statistic_X6_ranked rfl rfl rfl (by decide +kernel) ⟨Nat.le_of_ble_eq_true rfl, Nat.le_of_ble_eq_true rfl⟩) (xpreV hK hW (k := 14) rfl (by decide) rfl) rfl rfl hl.1 rfl (lv_room (Nat.le_of_ble_eq_true rfl)) dX10_statistic_74 ⟨Nat.le_of_ble_eq_true rfl, Nat.le_of_ble_eq_true rfl⟩) hW (fun H locs hW => ?_)
            rw [← Option.some.inj hr]
            exact xiret hx hb hr0 hlocks hW adR_rf dX10_statistic_77
          · have hr := br_n c39_1 hr
            by_cases c39_2 : x1 = (3 : Int32)
            · have hr := br_p c39_2 hr
              refine lv_tableIn (tgt := 78) hx hb dX10_statistic_39 (by rw [c39_2]; decide) (by rw [c39_2]; decide) (off := 39) (by rw [c39_2]; decide) (by decide) ?_
              refine lv_aload_n hx hb dX10_statistic_78 rfl (lv_at hl 1 rfl) ?_
              obtain ⟨r_5, hc79, hr⟩ := ob1_e hr
              refine xk_i (va_runV (As := []) (rest := []) ⟨hx, hb, hml, hown, hts⟩ (c_X6_average l D cA ad M hc79) (cwV 0 hts gX10_statistic_X6_average rfl rfl rfl (by decide +kernel) ⟨Nat.le_of_ble_eq_true rfl, Nat.le_of_ble_eq_true rfl⟩) (xpreV hK hW (k := 14) rfl (by decide) rfl) rfl rfl hl.1 rfl (lv_room (Nat.le_of_ble_eq_true rfl)) dX10_statistic_79 ⟨Nat.le_of_ble_eq_true rfl, Nat.le_of_ble_eq_true rfl⟩) hW (fun H locs hW => ?_)
              rw [← Option.some.inj hr]
              exact xiret hx hb hr0 hlocks hW adR_rf dX10_statistic_82
            · have hr := br_n c39_2 hr
              have hsw : x1.toInt < 1 ∨ 3 < x1.toInt := by
                have hsw0 := lv_neT c39_0 (a := 1) rfl
                have hsw1 := lv_neT c39_1 (a := 2) rfl
                have hsw2 := lv_neT c39_2 (a := 3) rfl
                omega
              refine lv_tableOut (tgt := 83) hx hb dX10_statistic_39 hsw (by decide) ?_
              refine lv_aload_n hx hb dX10_statistic_83 rfl (lv_at hl 1 rfl) ?_
              refine lv_iload_n hx hb dX10_statistic_84 rfl (lv_at hl 0 rfl) ?_
              refine lv_iconst (v := (1 : Int32)) hx hb dX10_statistic_85 (by decide) ?_
              refine lv_isub hx hb dX10_statistic_86 ?_
              refine lv_iconst (v := (2 : Int32)) hx hb dX10_statistic_87 (by decide) ?_
              refine lv_idiv hx hb dX10_statistic_88 (by decide) ?_
              obtain ⟨r_6, hc89, hr⟩ := ob1_e hr
              refine xk_i (va_runV (As := [.int ((r_2 - (1 : Int32)) / (2 : Int32))]) (rest := []) ⟨hx, hb, hml, hown, hts⟩ (c_X6_ranked l D cA ad M ((r_2 - (1 : Int32)) / (2 : Int32)) hc89) (cwV 1 hts gX10_statistic_X6_ranked rfl rfl rfl (by decide +kernel) ⟨Nat.le_of_ble_eq_true rfl, Nat.le_of_ble_eq_true rfl⟩) (xpreV hK hW (k := 14) rfl (by decide) rfl) rfl rfl hl.1 rfl (lv_room (Nat.le_of_ble_eq_true rfl)) dX10_statistic_89 ⟨Nat.le_of_ble_eq_true rfl, Nat.le_of_ble_eq_true rfl⟩) hW (fun H locs hW => ?_)
              refine lv_aload_n hx hb dX10_statistic_92 rfl (lv_at hl 1 rfl) ?_
              refine lv_iload_n hx hb dX10_statistic_93 rfl (lv_at hl 0 rfl) ?_
              refine lv_iconst (v := (2 : Int32)) hx hb dX10_statistic_94 (by decide) ?_
              refine lv_idiv hx hb dX10_statistic_95 (by decide) ?_
              obtain ⟨r_7, hc96, hr⟩ := ob1_e hr
              refine xk_i (va_runV (As := [.int (r_2 / (2 : Int32))]) (rest := [.int r_6]) ⟨hx, hb, hml, hown, hts⟩ (c_X6_ranked l D cA ad M (r_2 / (2 : Int32)) hc96) (cwV 1 hts gX10_statistic_X6_ranked rfl rfl rfl (by decide +kernel) ⟨Nat.le_of_ble_eq_true rfl, Nat.le_of_ble_eq_true rfl⟩) (xpreV hK hW (k := 14) rfl (by decide) rfl) rfl rfl hl.1 rfl (lv_room (Nat.le_of_ble_eq_true rfl)) dX10_statistic_96 ⟨Nat.le_of_ble_eq_true rfl, Nat.le_of_ble_eq_true rfl⟩) hW (fun H locs hW => ?_)
              refine lv_iadd hx hb dX10_statistic_99 ?_
              refine lv_iconst (v := (2 : Int32)) hx hb dX10_statistic_100 (by decide) ?_
              refine lv_idiv hx hb dX10_statistic_101 (by decide) ?_
              rw [← Option.some.inj hr]
              exact xiret hx hb hr0 hlocks hW adR_rf dX10_statistic_102
      · have hr := br_p c1 hr
        refine lv_ldc (v := (-2000000005 : Int32)) hx hb hown (hts _ (wm 4 rfl)) dX10_statistic_35 ?_
        rw [← Option.some.inj hr]
        exact xiret hx hb hr0 hlocks hW adR_rf dX10_statistic_37
    · have hr := br_p c1 hr
      refine lv_iload_n hx hb dX10_statistic_29 rfl (lv_at hl 0 rfl) ?_
      rw [← Option.some.inj hr]
      exact xiret hx hb hr0 hlocks hW adR_rf dX10_statistic_30
  · have hr := br_p c1 hr
    refine lv_ldc (v := (-2000000002 : Int32)) hx hb hown (hts _ (wm 1 rfl)) dX10_statistic_9 ?_
    rw [← Option.some.inj hr]
    exact xiret hx hb hr0 hlocks hW adR_rf dX10_statistic_11

set_option maxHeartbeats 4000000 in
set_option maxRecDepth 100000 in
theorem c_X10_trust (l : Launch) (D : va_G) (cA : Nat → ClassId) (ad : Nat → Nat) (M : Mm) (x1 : Int32) {r : Int32} (hr : f_X10_trust x1 M = some r) : Met l yX10_trust wsX10_trust ({ frames := 3, cells := 0, slots := 0, locals := 68 }) (PcX D true cA ad M [.ref (ad 224), .int x1]) (QiX false D true cA ad r M) 0 0 (AX true ad) := by
  refine Met.ofW (cc := cX10_trust) (maxL := 3) (ret := (some .int)) (by decide) rfl ?_
  intro p e s m args below meth c s₁ B hml hv
  obtain ⟨hav, hP0, hK⟩ := hv
  have hx := B.exec
  have hb := B.bytes
  have hr0 := B.returns
  have hts := atoms_spec (ws := wsX10_trust) B.pre
  have hown : s.vm.findClass RX10 = some m.cls := findClass_of_methodNamed B.named
  have hlocks := B.notSynchronized
  have hW := xstart hP0
  have hi8 : ∀ w ∈ wsX80, w ∈ wsX10_trust := fun w h => List.mem_cons_of_mem _ (List.mem_append_left _ (List.mem_append_right _ h))
  have hi10 : ∀ w ∈ wsX100, w ∈ wsX10_trust := fun w h => List.mem_cons_of_mem _ (List.mem_append_left _ (List.mem_append_left _ (List.mem_append_right _ h)))
  have hl := lv_entry ([.ref (ad 224), .int x1]) (n := 3) (Nat.le_of_ble_eq_true rfl)
  have hef := lg_entry_eq m ([.ref (ad 224), .int x1]) 3
  rw [← hav] at hef
  rw [hef]
  clear hef
  generalize (lg_sl ([.ref (ad 224), .int x1]) ++ List.replicate (3 - (lg_sl ([.ref (ad 224), .int x1])).length) Slot.unset).toArray = ls at hl ⊢
  have hl : lv_has ls 3 [(0, .ref (ad 224)), (1, .int x1)] := hl
  clear hP0
  unfold f_X10_trust at hr
  refine lv_iload_n hx hb dX10_trust_0 rfl (lv_at hl 1 rfl) ?_
  refine lv_if_ge (tgt := 7) hx hb dX10_trust_1 (by decide) (fun c1 => ?_) (fun c1 => ?_)
  · have hr := br_p c1 hr
    refine lv_iconst (v := (0 : Int32)) hx hb dX10_trust_7 (by decide) ?_
    refine lv_istore_n (lv' := [(2, .int (0 : Int32)), (0, .ref (ad 224)), (1, .int x1)]) hx hb dX10_trust_8 rfl hl (by decide) rfl (fun ls hl => ?_)
    have hL9_1 : ∀ (n : Nat) (x2_1 : Int32) (H : Heap) (locs : List Loc) (ls : Array Slot), Xw D true cA ad M (AX true ad) s.heap H locs → lv_has ls 3 [(0, .ref (ad 224)), (1, .int x1), (2, .int x2_1)] → f_X10_trust_L9 M x1 n x2_1 = some r → W p l e (headSpec wsX10_trust { frames := 3, cells := 0, slots := 0, locals := 68 }).room s m args below meth c H locs 0 0 (MQ below (QiX false D true cA ad r M) args s 0 0 (AX true ad)) (F0 m 9 ls []) := by
      intro n
      induction n with
      | zero =>
        intro x2_1 H locs ls hW hl hr
        exact absurd hr (by simp [f_X10_trust_L9])
      | succ n ih =>
        intro x2_1 H locs ls hW hl hr
        rw [f_X10_trust_L9] at hr
        refine lv_iload_n hx hb dX10_trust_9 rfl (lv_at hl 2 rfl) ?_
        refine lv_iconst (v := (4 : Int32)) hx hb dX10_trust_10 (by decide) ?_
        refine lv_icmp_ge (tgt := 45) hx hb dX10_trust_11 (by decide) (fun c1 => ?_) (fun c1 => ?_)
        · have hr := br_p c1 hr
          refine lv_ldc (v := (-2000000005 : Int32)) hx hb hown (hts _ (wm 4 rfl)) dX10_trust_45 ?_
          rw [← Option.some.inj hr]
          exact xiret hx hb hr0 hlocks hW adR_rf dX10_trust_47
        · have hr := br_n c1 hr
          refine lv_iload_n hx hb dX10_trust_14 rfl (lv_at hl 2 rfl) ?_
          refine lv_aload_n hx hb dX10_trust_15 rfl (lv_at hl 0 rfl) ?_
          refine g10_0 hx hb hts hi10 hown hK hW (k := 224) rfl (hts _ (wm 2 rfl)) dX10_trust_16 ?_
          refine g8_1 hx hb hts hi8 hown hK hW (k := 0) rfl (hts _ (wm 3 rfl)) dX10_trust_19 ?_
          refine lv_icmp_ge (tgt := 45) hx hb dX10_trust_22 (by decide) (fun c1 => ?_) (fun c1 => ?_)
          · have hr := br_p c1 hr
            refine lv_ldc (v := (-2000000005 : Int32)) hx hb hown (hts _ (wm 4 rfl)) dX10_trust_45 ?_
            rw [← Option.some.inj hr]
            exact xiret hx hb hr0 hlocks hW adR_rf dX10_trust_47
          · have hr := br_n c1 hr
            refine lv_aload_n hx hb dX10_trust_25 rfl (lv_at hl 0 rfl) ?_
            refine g10_0 hx hb hts hi10 hown hK hW (k := 224) rfl (hts _ (wm 2 rfl)) dX10_trust_26 ?_
            refine lv_iload_n hx hb dX10_trust_29 rfl (lv_at hl 2 rfl) ?_
            obtain ⟨r_2, hc30, hr⟩ := ob1_e hr
            refine xk_i (va_runV (As := [.int x2_1]) (rest := []) ⟨hx, hb, hml, hown, hts⟩ (c_X8_placeInTrust l D cA ad M x2_1 hc30) (cwV 1 hts gX10_trust_X8_placeInTrust rfl rfl rfl (by decide +kernel) ⟨Nat.le_of_ble_eq_true rfl, Nat.le_of_ble_eq_true rfl⟩) (xpreV hK hW (k := 0) rfl (by decide) rfl) rfl rfl hl.1 rfl (lv_room (Nat.le_of_ble_eq_true rfl)) dX10_trust_30 ⟨Nat.le_of_ble_eq_true rfl, Nat.le_of_ble_eq_true rfl⟩) hW (fun H locs hW => ?_)
            refine lv_iload_n hx hb dX10_trust_33 rfl (lv_at hl 1 rfl) ?_
            refine lv_icmp_ne (tgt := 39) hx hb dX10_trust_34 (by decide) (fun c1 => ?_) (fun c1 => ?_)
            · have hr := br_n c1 hr
              obtain ⟨x2_3, ex2_3, hr⟩ := lt1_e hr
              refine lv_iinc (v := x2_3) (lv' := [(2, .int x2_3), (0, .ref (ad 224)), (1, .int x1)]) hx hb dX10_trust_39 hl (k := 2) rfl (by rw [ex2_3]; rfl) (by decide) rfl (fun ls hl => ?_)
              refine lv_goto (tgt := 9) hx hb dX10_trust_42 (by decide) ?_
              exact ih x2_3 _ _ _ hW (lv_sub hl [1, 2, 0] rfl) hr
            · have hr := br_p c1 hr
              refine lv_iload_n hx hb dX10_trust_37 rfl (lv_at hl 2 rfl) ?_
              rw [← Option.some.inj hr]
              exact xiret hx hb hr0 hlocks hW adR_rf dX10_trust_38
    exact hL9_1 1000 (0 : Int32) _ _ _ hW (lv_sub hl [1, 2, 0] rfl) hr
  · have hr := br_n c1 hr
    refine lv_ldc (v := (-2000000002 : Int32)) hx hb hown (hts _ (wm 1 rfl)) dX10_trust_4 ?_
    rw [← Option.some.inj hr]
    exact xiret hx hb hr0 hlocks hW adR_rf dX10_trust_6

set_option maxHeartbeats 4000000 in
set_option maxRecDepth 100000 in
theorem c_X10_total (l : Launch) (D : va_G) (cA : Nat → ClassId) (ad : Nat → Nat) (M : Mm) (x1 : Int32) {r : Int32} (hr : f_X10_total x1 M = some r) : Met l yX10_total wsX10_total ({ frames := 2, cells := 0, slots := 0, locals := 45 }) (PcX D true cA ad M [.ref (ad 224), .int x1]) (QiX false D true cA ad r M) 0 0 (AX true ad) := by
  refine Met.ofW (cc := cX10_total) (maxL := 3) (ret := (some .int)) (by decide) rfl ?_
  intro p e s m args below meth c s₁ B hml hv
  obtain ⟨hav, hP0, hK⟩ := hv
  have hx := B.exec
  have hb := B.bytes
  have hr0 := B.returns
  have hts := atoms_spec (ws := wsX10_total) B.pre
  have hown : s.vm.findClass RX10 = some m.cls := findClass_of_methodNamed B.named
  have hlocks := B.notSynchronized
  have hW := xstart hP0
  have hi1 : ∀ w ∈ wsX10, w ∈ wsX10_total := fun w h => List.mem_cons_of_mem _ (List.mem_append_left _ (List.mem_append_left _ (List.mem_append_left _ (List.mem_append_right _ h))))
  have hi4 : ∀ w ∈ wsX40, w ∈ wsX10_total := fun w h => List.mem_cons_of_mem _ (List.mem_append_left _ (List.mem_append_left _ (List.mem_append_left _ (List.mem_append_left _ (List.mem_append_left _ (List.mem_append_right _ h))))))
  have hi6 : ∀ w ∈ wsX60, w ∈ wsX10_total := fun w h => List.mem_cons_of_mem _ (List.mem_append_left _ (List.mem_append_left _ (List.mem_append_left _ (List.mem_append_left _ (List.mem_append_right _ h)))))
  have hi8 : ∀ w ∈ wsX80, w ∈ wsX10_total := fun w h => List.mem_cons_of_mem _ (List.mem_append_left _ (List.mem_append_left _ (List.mem_append_left _ (List.mem_append_left _ (List.mem_append_left _ (List.mem_append_left _ (List.mem_append_right _ h)))))))
  have hi9 : ∀ w ∈ wsX90, w ∈ wsX10_total := fun w h => List.mem_cons_of_mem _ (List.mem_append_left _ (List.mem_append_left _ (List.mem_append_right _ h)))
  have hi10 : ∀ w ∈ wsX100, w ∈ wsX10_total := fun w h => List.mem_cons_of_mem _ (List.mem_append_left _ (List.mem_append_left _ (List.mem_append_left _ (List.mem_append_left _ (List.mem_append_left _ (List.mem_append_left _ (List.mem_append_left _ (List.mem_append_right _ h))))))))
  have hl := lv_entry ([.ref (ad 224), .int x1]) (n := 3) (Nat.le_of_ble_eq_true rfl)
  have hef := lg_entry_eq m ([.ref (ad 224), .int x1]) 3
  rw [← hav] at hef
  rw [hef]
  clear hef
  generalize (lg_sl ([.ref (ad 224), .int x1]) ++ List.replicate (3 - (lg_sl ([.ref (ad 224), .int x1])).length) Slot.unset).toArray = ls at hl ⊢
  have hl : lv_has ls 3 [(0, .ref (ad 224)), (1, .int x1)] := hl
  clear hP0
  unfold f_X10_total at hr
  refine lv_iload_n hx hb dX10_total_0 rfl (lv_at hl 1 rfl) ?_
  by_cases c1_0 : x1 = (0 : Int32)
  · have hr := br_p c1_0 hr
    refine lv_tableIn (tgt := 56) hx hb dX10_total_1 (by rw [c1_0]; decide) (by rw [c1_0]; decide) (off := 55) (by rw [c1_0]; decide) (by decide) ?_
    refine lv_aload_n hx hb dX10_total_56 rfl (lv_at hl 0 rfl) ?_
    refine g10_0 hx hb hts hi10 hown hK hW (k := 224) rfl (hts _ (wm 1 rfl)) dX10_total_57 ?_
    refine g8_1 hx hb hts hi8 hown hK hW (k := 0) rfl (hts _ (wm 2 rfl)) dX10_total_60 ?_
    rw [← Option.some.inj hr]
    exact xiret hx hb hr0 hlocks hW adR_rf dX10_total_63
  · have hr := br_n c1_0 hr
    by_cases c1_1 : x1 = (1 : Int32)
    · have hr := br_p c1_1 hr
      refine lv_tableIn (tgt := 64) hx hb dX10_total_1 (by rw [c1_1]; decide) (by rw [c1_1]; decide) (off := 63) (by rw [c1_1]; decide) (by decide) ?_
      refine lv_aload_n hx hb dX10_total_64 rfl (lv_at hl 0 rfl) ?_
      refine g10_0 hx hb hts hi10 hown hK hW (k := 224) rfl (hts _ (wm 1 rfl)) dX10_total_65 ?_
      refine g8_2 hx hb hts hi8 hown hK hW (k := 0) rfl (hts _ (wm 3 rfl)) dX10_total_68 ?_
      refine g4_2 hx hb hts hi4 hown hK hW (k := 10) rfl (hts _ (wm 4 rfl)) dX10_total_71 ?_
      rw [← Option.some.inj hr]
      exact xiret hx hb hr0 hlocks hW adR_rf dX10_total_74
    · have hr := br_n c1_1 hr
      by_cases c1_2 : x1 = (2 : Int32)
      · have hr := br_p c1_2 hr
        refine lv_tableIn (tgt := 75) hx hb dX10_total_1 (by rw [c1_2]; decide) (by rw [c1_2]; decide) (off := 74) (by rw [c1_2]; decide) (by decide) ?_
        refine lv_aload_n hx hb dX10_total_75 rfl (lv_at hl 0 rfl) ?_
        refine g10_0 hx hb hts hi10 hown hK hW (k := 224) rfl (hts _ (wm 1 rfl)) dX10_total_76 ?_
        obtain ⟨r_1, hc79, hr⟩ := ob1_e hr
        refine xk_i (va_runV (As := []) (rest := []) ⟨hx, hb, hml, hown, hts⟩ (c_X8_toldShots l D cA ad M hc79) (cwV 0 hts gX10_total_X8_toldShots rfl rfl rfl (by decide +kernel) ⟨Nat.le_of_ble_eq_true rfl, Nat.le_of_ble_eq_true rfl⟩) (xpreV hK hW (k := 0) rfl (by decide) rfl) rfl rfl hl.1 rfl (lv_room (Nat.le_of_ble_eq_true rfl)) dX10_total_79 ⟨Nat.le_of_ble_eq_true rfl, Nat.le_of_ble_eq_true rfl⟩) hW (fun H locs hW => ?_)
        rw [← Option.some.inj hr]
        exact xiret hx hb hr0 hlocks hW adR_rf dX10_total_82
      · have hr := br_n c1_2 hr
        by_cases c1_3 : x1 = (3 : Int32)
        · have hr := br_p c1_3 hr
          refine lv_tableIn (tgt := 83) hx hb dX10_total_1 (by rw [c1_3]; decide) (by rw [c1_3]; decide) (off := 82) (by rw [c1_3]; decide) (by decide) ?_
          refine lv_aload_n hx hb dX10_total_83 rfl (lv_at hl 0 rfl) ?_
          refine g10_0 hx hb hts hi10 hown hK hW (k := 224) rfl (hts _ (wm 1 rfl)) dX10_total_84 ?_
          refine g8_6 hx hb hts hi8 hown hK hW (k := 0) rfl (hts _ (wm 5 rfl)) dX10_total_87 ?_
          rw [← Option.some.inj hr]
          exact xiret hx hb hr0 hlocks hW adR_rf dX10_total_90
        · have hr := br_n c1_3 hr
          by_cases c1_4 : x1 = (4 : Int32)
          · have hr := br_p c1_4 hr
            refine lv_tableIn (tgt := 91) hx hb dX10_total_1 (by rw [c1_4]; decide) (by rw [c1_4]; decide) (off := 90) (by rw [c1_4]; decide) (by decide) ?_
            refine lv_aload_n hx hb dX10_total_91 rfl (lv_at hl 0 rfl) ?_
            refine g10_0 hx hb hts hi10 hown hK hW (k := 224) rfl (hts _ (wm 1 rfl)) dX10_total_92 ?_
            refine g8_7 hx hb hts hi8 hown hK hW (k := 0) rfl (hts _ (wm 6 rfl)) dX10_total_95 ?_
            rw [← Option.some.inj hr]
            exact xiret hx hb hr0 hlocks hW adR_rf dX10_total_98
          · have hr := br_n c1_4 hr
            by_cases c1_5 : x1 = (5 : Int32)
            · have hr := br_p c1_5 hr
              refine lv_tableIn (tgt := 99) hx hb dX10_total_1 (by rw [c1_5]; decide) (by rw [c1_5]; decide) (off := 98) (by rw [c1_5]; decide) (by decide) ?_
              refine lv_aload_n hx hb dX10_total_99 rfl (lv_at hl 0 rfl) ?_
              refine g10_0 hx hb hts hi10 hown hK hW (k := 224) rfl (hts _ (wm 1 rfl)) dX10_total_100 ?_
              refine g8_5 hx hb hts hi8 hown hK hW (k := 0) rfl (hts _ (wm 7 rfl)) dX10_total_103 ?_
              refine g6_1 hx hb hts hi6 hown hK hW (k := 14) rfl (hts _ (wm 8 rfl)) dX10_total_106 ?_
              rw [← Option.some.inj hr]
              exact xiret hx hb hr0 hlocks hW adR_rf dX10_total_109
            · have hr := br_n c1_5 hr
              by_cases c1_6 : x1 = (6 : Int32)
              · have hr := br_p c1_6 hr
                refine lv_tableIn (tgt := 110) hx hb dX10_total_1 (by rw [c1_6]; decide) (by rw [c1_6]; decide) (off := 109) (by rw [c1_6]; decide) (by decide) ?_
                refine lv_aload_n hx hb dX10_total_110 rfl (lv_at hl 0 rfl) ?_
                refine g10_0 hx hb hts hi10 hown hK hW (k := 224) rfl (hts _ (wm 1 rfl)) dX10_total_111 ?_
                refine g8_4 hx hb hts hi8 hown hK hW (k := 0) rfl (hts _ (wm 9 rfl)) dX10_total_114 ?_
                obtain ⟨r_2, hc117, hr⟩ := ob1_e hr
                refine xk_i (va_runS (As := [.int (gI M 0 4)]) (rest := []) ⟨hx, hb, hml, hown, hts⟩ (c_X10_asNumber l D cA ad M (gI M 0 4) hc117) (va_cwS 1 hts gX10_total_X10_asNumber rfl rfl rfl (by decide +kernel) ⟨Nat.le_of_ble_eq_true rfl, Nat.le_of_ble_eq_true rfl⟩) (xpreS hK hW) rfl rfl hl.1 rfl (lv_room (Nat.le_of_ble_eq_true rfl)) dX10_total_117 ⟨Nat.le_of_ble_eq_true rfl, Nat.le_of_ble_eq_true rfl⟩) hW (fun H locs hW => ?_)
                rw [← Option.some.inj hr]
                exact xiret hx hb hr0 hlocks hW adR_rf dX10_total_120
              · have hr := br_n c1_6 hr
                by_cases c1_7 : x1 = (7 : Int32)
                · have hr := br_p c1_7 hr
                  refine lv_tableIn (tgt := 121) hx hb dX10_total_1 (by rw [c1_7]; decide) (by rw [c1_7]; decide) (off := 120) (by rw [c1_7]; decide) (by decide) ?_
                  refine lv_aload_n hx hb dX10_total_121 rfl (lv_at hl 0 rfl) ?_
                  refine g10_0 hx hb hts hi10 hown hK hW (k := 224) rfl (hts _ (wm 1 rfl)) dX10_total_122 ?_
                  obtain ⟨r_3, hc125, hr⟩ := ob1_e hr
                  refine xk_i (va_runV (As := []) (rest := []) ⟨hx, hb, hml, hown, hts⟩ (c_X8_failingPaths l D cA ad M hc125) (cwV 0 hts gX10_total_X8_failingPaths rfl rfl rfl (by decide +kernel) ⟨Nat.le_of_ble_eq_true rfl, Nat.le_of_ble_eq_true rfl⟩) (xpreV hK hW (k := 0) rfl (by decide) rfl) rfl rfl hl.1 rfl (lv_room (Nat.le_of_ble_eq_true rfl)) dX10_total_125 ⟨Nat.le_of_ble_eq_true rfl, Nat.le_of_ble_eq_true rfl⟩) hW (fun H locs hW => ?_)
                  rw [← Option.some.inj hr]
                  exact xiret hx hb hr0 hlocks hW adR_rf dX10_total_128
                · have hr := br_n c1_7 hr
                  by_cases c1_8 : x1 = (8 : Int32)
                  · have hr := br_p c1_8 hr
                    refine lv_tableIn (tgt := 129) hx hb dX10_total_1 (by rw [c1_8]; decide) (by rw [c1_8]; decide) (off := 128) (by rw [c1_8]; decide) (by decide) ?_
                    refine lv_aload_n hx hb dX10_total_129 rfl (lv_at hl 0 rfl) ?_
                    refine g10_1 hx hb hts hi10 hown hK hW (k := 224) rfl (hts _ (wm 10 rfl)) dX10_total_130 ?_
                    refine g1_1 hx hb hts hi1 hown hK hW (k := 225) rfl (hts _ (wm 11 rfl)) dX10_total_133 ?_
                    rw [← Option.some.inj hr]
                    exact xiret hx hb hr0 hlocks hW adR_rf dX10_total_136
                  · have hr := br_n c1_8 hr
                    by_cases c1_9 : x1 = (9 : Int32)
                    · have hr := br_p c1_9 hr
                      refine lv_tableIn (tgt := 137) hx hb dX10_total_1 (by rw [c1_9]; decide) (by rw [c1_9]; decide) (off := 136) (by rw [c1_9]; decide) (by decide) ?_
                      refine lv_aload_n hx hb dX10_total_137 rfl (lv_at hl 0 rfl) ?_
                      refine g10_5 hx hb hts hi10 hown hK hW (k := 224) rfl (hts _ (wm 12 rfl)) dX10_total_138 ?_
                      refine g9_1 hx hb hts hi9 hown hK hW (k := 230) rfl (hts _ (wm 13 rfl)) dX10_total_141 ?_
                      rw [← Option.some.inj hr]
                      exact xiret hx hb hr0 hlocks hW adR_rf dX10_total_144
                    · have hr := br_n c1_9 hr
                      have hsw : x1.toInt < 0 ∨ 9 < x1.toInt := by
                        have hsw0 := lv_neT c1_0 (a := 0) rfl
                        have hsw1 := lv_neT c1_1 (a := 1) rfl
                        have hsw2 := lv_neT c1_2 (a := 2) rfl
                        have hsw3 := lv_neT c1_3 (a := 3) rfl
                        have hsw4 := lv_neT c1_4 (a := 4) rfl
                        have hsw5 := lv_neT c1_5 (a := 5) rfl
                        have hsw6 := lv_neT c1_6 (a := 6) rfl
                        have hsw7 := lv_neT c1_7 (a := 7) rfl
                        have hsw8 := lv_neT c1_8 (a := 8) rfl
                        have hsw9 := lv_neT c1_9 (a := 9) rfl
                        omega
                      refine lv_tableOut (tgt := 145) hx hb dX10_total_1 hsw (by decide) ?_
                      refine lv_iload_n hx hb dX10_total_145 rfl (lv_at hl 1 rfl) ?_
                      refine lv_bipush (v := (10 : Int32)) hx hb dX10_total_146 (by decide) ?_
                      refine lv_bipush (v := (14 : Int32)) hx hb dX10_total_148 (by decide) ?_
                      obtain ⟨r_4, hc150, hr⟩ := ob1_e hr
                      refine xk_i (va_runS (As := [.int x1, .int (10 : Int32), .int (14 : Int32)]) (rest := []) ⟨hx, hb, hml, hown, hts⟩ (c_X10_isWithin l D cA ad M x1 (10 : Int32) (14 : Int32) hc150) (va_cwS 3 hts gX10_total_X10_isWithin rfl rfl rfl (by decide +kernel) ⟨Nat.le_of_ble_eq_true rfl, Nat.le_of_ble_eq_true rfl⟩) (xpreS hK hW) rfl rfl hl.1 rfl (lv_room (Nat.le_of_ble_eq_true rfl)) dX10_total_150 ⟨Nat.le_of_ble_eq_true rfl, Nat.le_of_ble_eq_true rfl⟩) hW (fun H locs hW => ?_)
                      obtain ⟨y_5, hr, hr3⟩ := ob1_e hr
                      have hj164_5 : ∀ (H : Heap) (locs : List Loc) (ls : Array Slot), Xw D true cA ad M (AX true ad) s.heap H locs → lv_has ls 3 [(0, .ref (ad 224))] → W p l e (headSpec wsX10_total { frames := 2, cells := 0, slots := 0, locals := 45 }).room s m args below meth c H locs 0 0 (MQ below (QiX false D true cA ad r M) args s 0 0 (AX true ad)) (F0 m 164 ls [.int y_5]) := by
                        intro H locs ls hW hl
                        have hr := hr3
                        refine lv_istore_n (lv' := [(2, .int y_5), (0, .ref (ad 224))]) hx hb dX10_total_164 rfl hl (by decide) rfl (fun ls hl => ?_)
                        refine lv_iload_n hx hb dX10_total_165 rfl (lv_at hl 0 rfl) ?_
                        refine lv_if_lt (tgt := 174) hx hb dX10_total_166 (by decide) (fun c1 => ?_) (fun c1 => ?_)
                        · have hr := br_p c1 hr
                          refine lv_ldc (v := (-2000000002 : Int32)) hx hb hown (hts _ (wm 14 rfl)) dX10_total_174 ?_
                          rw [← Option.some.inj hr]
                          exact xiret hx hb hr0 hlocks hW adR_rf dX10_total_176
                        · have hr := br_n c1 hr
                          refine lv_iload_n hx hb dX10_total_169 rfl (lv_at hl 0 rfl) ?_
                          refine lv_iconst (v := (5 : Int32)) hx hb dX10_total_170 (by decide) ?_
                          refine lv_icmp_lt (tgt := 177) hx hb dX10_total_171 (by decide) (fun c1 => ?_) (fun c1 => ?_)
                          · have hr := br_p c1 hr
                            refine lv_aload_n hx hb dX10_total_177 rfl (lv_at hl 1 rfl) ?_
                            refine g10_0 hx hb hts hi10 hown hK hW (k := 224) rfl (hts _ (wm 1 rfl)) dX10_total_178 ?_
                            refine g8_3 hx hb hts hi8 hown hK hW (k := 0) rfl (hts _ (wm 15 rfl)) dX10_total_181 ?_
                            refine lv_iload_n hx hb dX10_total_184 rfl (lv_at hl 0 rfl) ?_
                            obtain ⟨hn185, hr⟩ := chk_e hr
                            refine xiald hx hb hK hW (k := 13) (t := 21) rfl (by decide) (by decide) rfl (n := 5) hn185 (jx := (ix y_5)) rfl dX10_total_185 ?_
                            rw [← Option.some.inj hr]
                            exact xiret hx hb hr0 hlocks hW adR_rf dX10_total_186
                          · have hr := br_n c1 hr
                            refine lv_ldc (v := (-2000000002 : Int32)) hx hb hown (hts _ (wm 14 rfl)) dX10_total_174 ?_
                            rw [← Option.some.inj hr]
                            exact xiret hx hb hr0 hlocks hW adR_rf dX10_total_176
                      clear hr3
                      refine lv_if_eq (tgt := 163) hx hb dX10_total_153 (by decide) (fun c1 => ?_) (fun c1 => ?_)
                      · have hr := br_p c1 hr
                        refine lv_iconst (v := (-1 : Int32)) hx hb dX10_total_163 (by decide) ?_
                        have e1 := Option.some.inj hr
                        subst e1
                        exact hj164_5 _ _ _ hW (lv_sub hl [0] rfl)
                      · have hr := br_n c1 hr
                        refine lv_iload_n hx hb dX10_total_156 rfl (lv_at hl 1 rfl) ?_
                        refine lv_bipush (v := (10 : Int32)) hx hb dX10_total_157 (by decide) ?_
                        refine lv_isub hx hb dX10_total_159 ?_
                        refine lv_goto (tgt := 164) hx hb dX10_total_160 (by decide) ?_
                        have e1 := Option.some.inj hr
                        subst e1
                        exact hj164_5 _ _ _ hW (lv_sub hl [0] rfl)

set_option maxHeartbeats 4000000 in
set_option maxRecDepth 100000 in
theorem c_X10_velocity (l : Launch) (D : va_G) (cA : Nat → ClassId) (ad : Nat → Nat) (M : Mm) (x1 : Int32) (x2 : Int32) (x3 : Int32) {r : Int32} (hr : f_X10_velocity x1 x2 x3 M = some r) : Met l yX10_velocity wsX10_velocity ({ frames := 2, cells := 0, slots := 0, locals := 51 }) (PcX D true cA ad M [.ref (ad 224), .int x1, .int x2, .int x3]) (QiX false D true cA ad r M) 0 0 (AX true ad) := by
  refine Met.ofW (cc := cX10_velocity) (maxL := 5) (ret := (some .int)) (by decide) rfl ?_
  intro p e s m args below meth c s₁ B hml hv
  obtain ⟨hav, hP0, hK⟩ := hv
  have hx := B.exec
  have hb := B.bytes
  have hr0 := B.returns
  have hts := atoms_spec (ws := wsX10_velocity) B.pre
  have hown : s.vm.findClass RX10 = some m.cls := findClass_of_methodNamed B.named
  have hlocks := B.notSynchronized
  have hW := xstart hP0
  have hi10 : ∀ w ∈ wsX100, w ∈ wsX10_velocity := fun w h => List.mem_cons_of_mem _ (List.mem_append_left _ (List.mem_append_left _ (List.mem_append_right _ h)))
  have hl := lv_entry ([.ref (ad 224), .int x1, .int x2, .int x3]) (n := 5) (Nat.le_of_ble_eq_true rfl)
  have hef := lg_entry_eq m ([.ref (ad 224), .int x1, .int x2, .int x3]) 5
  rw [← hav] at hef
  rw [hef]
  clear hef
  generalize (lg_sl ([.ref (ad 224), .int x1, .int x2, .int x3]) ++ List.replicate (5 - (lg_sl ([.ref (ad 224), .int x1, .int x2, .int x3])).length) Slot.unset).toArray = ls at hl ⊢
  have hl : lv_has ls 5 [(0, .ref (ad 224)), (1, .int x1), (2, .int x2), (3, .int x3)] := hl
  clear hP0
  unfold f_X10_velocity at hr
  refine lv_aload_n hx hb dX10_velocity_0 rfl (lv_at hl 0 rfl) ?_
  refine g10_0 hx hb hts hi10 hown hK hW (k := 224) rfl (hts _ (wm 1 rfl)) dX10_velocity_1 ?_
  refine lv_iload_n hx hb dX10_velocity_4 rfl (lv_at hl 1 rfl) ?_
  obtain ⟨r_1, hc5, hr⟩ := ob1_e hr
  refine xk_q (va_runV (As := [.int x1]) (rest := []) ⟨hx, hb, hml, hown, hts⟩ (c_X8_pathAt l D cA ad M x1 hc5) (cwV 1 hts gX10_velocity_X8_pathAt rfl rfl rfl (by decide +kernel) ⟨Nat.le_of_ble_eq_true rfl, Nat.le_of_ble_eq_true rfl⟩) (xpreV hK hW (k := 0) rfl (by decide) rfl) rfl rfl hl.1 rfl (lv_room (Nat.le_of_ble_eq_true rfl)) dX10_velocity_5 ⟨Nat.le_of_ble_eq_true rfl, Nat.le_of_ble_eq_true rfl⟩) hW (fun H locs hW => ?_)
  cases r_1 with
  | none =>
    have hr : _ = _ := hr
    simp only [onl] at hr
    refine lv_astoreN (lv' := [(4, .null), (0, .ref (ad 224)), (1, .int x1), (2, .int x2), (3, .int x3)]) hx hb dX10_velocity_8 hl (by decide) rfl (fun ls hl => ?_)
    refine lv_aloadN hx hb dX10_velocity_10 (lv_at hl 0 rfl) ?_
    refine lv_ifnonnullN hx hb dX10_velocity_12 ?_
    refine lv_ldc (v := (-2000000001 : Int32)) hx hb hown (hts _ (wm 2 rfl)) dX10_velocity_15 ?_
    rw [← Option.some.inj hr]
    exact xiret hx hb hr0 hlocks hW adR_rf dX10_velocity_17
  | some k_2 =>
    simp only [onl] at hr
    obtain ⟨hk5, hr⟩ := chk_e hr
    have hk5 := of_decide_eq_true hk5
    refine lv_astore (lv' := [(4, .ref (ad k_2)), (0, .ref (ad 224)), (1, .int x1), (2, .int x2), (3, .int x3)]) hx hb dX10_velocity_8 hl (by decide) rfl (fun ls hl => ?_)
    refine lv_aload hx hb dX10_velocity_10 (lv_at hl 0 rfl) ?_
    refine lv_ifnonnull (tgt := 18) hx hb dX10_velocity_12 (by decide) ?_
    refine lv_aload hx hb dX10_velocity_18 (lv_at hl 0 rfl) ?_
    refine lv_iload_n hx hb dX10_velocity_20 rfl (lv_at hl 3 rfl) ?_
    obtain ⟨r_3, hc21, hr⟩ := ob1_e hr
    refine xk_i (va_runV (As := [.int x2]) (rest := []) ⟨hx, hb, hml, hown, hts⟩ (c_X3_canTake l D cA ad M k_2 x2 hk5 hc21) (cwV 1 hts gX10_velocity_X3_canTake rfl rfl rfl (by decide +kernel) ⟨Nat.le_of_ble_eq_true rfl, Nat.le_of_ble_eq_true rfl⟩) (xpreV hK hW (k := k_2) hk5 (by decide) rfl) rfl rfl hl.1 rfl (lv_room (Nat.le_of_ble_eq_true rfl)) dX10_velocity_21 ⟨Nat.le_of_ble_eq_true rfl, Nat.le_of_ble_eq_true rfl⟩) hW (fun H locs hW => ?_)
    refine lv_if_eq (tgt := 36) hx hb dX10_velocity_24 (by decide) (fun c1 => ?_) (fun c1 => ?_)
    · have hr := br_p c1 hr
      refine lv_ldc (v := (-2000000002 : Int32)) hx hb hown (hts _ (wm 3 rfl)) dX10_velocity_36 ?_
      rw [← Option.some.inj hr]
      exact xiret hx hb hr0 hlocks hW adR_rf dX10_velocity_38
    · have hr := br_n c1 hr
      refine lv_aload hx hb dX10_velocity_27 (lv_at hl 0 rfl) ?_
      refine lv_iload_n hx hb dX10_velocity_29 rfl (lv_at hl 4 rfl) ?_
      obtain ⟨r_4, hc30, hr⟩ := ob1_e hr
      refine xk_i (va_runV (As := [.int x3]) (rest := []) ⟨hx, hb, hml, hown, hts⟩ (c_X3_canTake l D cA ad M k_2 x3 hk5 hc30) (cwV 1 hts gX10_velocity_X3_canTake rfl rfl rfl (by decide +kernel) ⟨Nat.le_of_ble_eq_true rfl, Nat.le_of_ble_eq_true rfl⟩) (xpreV hK hW (k := k_2) hk5 (by decide) rfl) rfl rfl hl.1 rfl (lv_room (Nat.le_of_ble_eq_true rfl)) dX10_velocity_30 ⟨Nat.le_of_ble_eq_true rfl, Nat.le_of_ble_eq_true rfl⟩) hW (fun H locs hW => ?_)
      refine lv_if_ne (tgt := 39) hx hb dX10_velocity_33 (by decide) (fun c1 => ?_) (fun c1 => ?_)
      · have hr := br_n c1 hr
        refine lv_aload hx hb dX10_velocity_39 (lv_at hl 0 rfl) ?_
        refine lv_iload_n hx hb dX10_velocity_41 rfl (lv_at hl 3 rfl) ?_
        refine lv_iload_n hx hb dX10_velocity_42 rfl (lv_at hl 4 rfl) ?_
        obtain ⟨r_5, hc43, hr⟩ := ob1_e hr
        refine xk_i (va_runV (As := [.int x2, .int x3]) (rest := []) ⟨hx, hb, hml, hown, hts⟩ (c_X3_velocityFrom l D cA ad M k_2 x2 x3 hk5 hc43) (cwV 2 hts gX10_velocity_X3_velocityFrom rfl rfl rfl (by decide +kernel) ⟨Nat.le_of_ble_eq_true rfl, Nat.le_of_ble_eq_true rfl⟩) (xpreV hK hW (k := k_2) hk5 (by decide) rfl) rfl rfl hl.1 rfl (lv_room (Nat.le_of_ble_eq_true rfl)) dX10_velocity_43 ⟨Nat.le_of_ble_eq_true rfl, Nat.le_of_ble_eq_true rfl⟩) hW (fun H locs hW => ?_)
        rw [← Option.some.inj hr]
        exact xiret hx hb hr0 hlocks hW adR_rf dX10_velocity_46
      · have hr := br_p c1 hr
        refine lv_ldc (v := (-2000000002 : Int32)) hx hb hown (hts _ (wm 3 rfl)) dX10_velocity_36 ?_
        rw [← Option.some.inj hr]
        exact xiret hx hb hr0 hlocks hW adR_rf dX10_velocity_38

set_option maxHeartbeats 4000000 in
set_option maxRecDepth 100000 in
theorem c_X10_ideal (l : Launch) (D : va_G) (cA : Nat → ClassId) (ad : Nat → Nat) (M : Mm) (x1 : Int32) (x2 : Int32) (x3 : Int32) (x4 : Int32) {r : Int32} (hr : f_X10_ideal x1 x2 x3 x4 M = some r) : Met l yX10_ideal wsX10_ideal ({ frames := 2, cells := 0, slots := 0, locals := 47 }) (PcX D true cA ad M [.ref (ad 224), .int x1, .int x2, .int x3, .int x4]) (QiX false D true cA ad r M) 0 0 (AX true ad) := by
  refine Met.ofW (cc := cX10_ideal) (maxL := 6) (ret := (some .int)) (by decide) rfl ?_
  intro p e s m args below meth c s₁ B hml hv
  obtain ⟨hav, hP0, hK⟩ := hv
  have hx := B.exec
  have hb := B.bytes
  have hr0 := B.returns
  have hts := atoms_spec (ws := wsX10_ideal) B.pre
  have hown : s.vm.findClass RX10 = some m.cls := findClass_of_methodNamed B.named
  have hlocks := B.notSynchronized
  have hW := xstart hP0
  have hi10 : ∀ w ∈ wsX100, w ∈ wsX10_ideal := fun w h => List.mem_cons_of_mem _ (List.mem_append_left _ (List.mem_append_left _ (List.mem_append_right _ h)))
  have hl := lv_entry ([.ref (ad 224), .int x1, .int x2, .int x3, .int x4]) (n := 6) (Nat.le_of_ble_eq_true rfl)
  have hef := lg_entry_eq m ([.ref (ad 224), .int x1, .int x2, .int x3, .int x4]) 6
  rw [← hav] at hef
  rw [hef]
  clear hef
  generalize (lg_sl ([.ref (ad 224), .int x1, .int x2, .int x3, .int x4]) ++ List.replicate (6 - (lg_sl ([.ref (ad 224), .int x1, .int x2, .int x3, .int x4])).length) Slot.unset).toArray = ls at hl ⊢
  have hl : lv_has ls 6 [(0, .ref (ad 224)), (1, .int x1), (2, .int x2), (3, .int x3), (4, .int x4)] := hl
  clear hP0
  unfold f_X10_ideal at hr
  refine lv_aload_n hx hb dX10_ideal_0 rfl (lv_at hl 0 rfl) ?_
  refine g10_0 hx hb hts hi10 hown hK hW (k := 224) rfl (hts _ (wm 1 rfl)) dX10_ideal_1 ?_
  refine lv_iload_n hx hb dX10_ideal_4 rfl (lv_at hl 1 rfl) ?_
  obtain ⟨r_1, hc5, hr⟩ := ob1_e hr
  refine xk_q (va_runV (As := [.int x1]) (rest := []) ⟨hx, hb, hml, hown, hts⟩ (c_X8_pathAt l D cA ad M x1 hc5) (cwV 1 hts gX10_ideal_X8_pathAt rfl rfl rfl (by decide +kernel) ⟨Nat.le_of_ble_eq_true rfl, Nat.le_of_ble_eq_true rfl⟩) (xpreV hK hW (k := 0) rfl (by decide) rfl) rfl rfl hl.1 rfl (lv_room (Nat.le_of_ble_eq_true rfl)) dX10_ideal_5 ⟨Nat.le_of_ble_eq_true rfl, Nat.le_of_ble_eq_true rfl⟩) hW (fun H locs hW => ?_)
  cases r_1 with
  | none =>
    have hr : _ = _ := hr
    simp only [onl] at hr
    refine lv_astoreN (lv' := [(5, .null), (0, .ref (ad 224)), (1, .int x1), (2, .int x2), (3, .int x3), (4, .int x4)]) hx hb dX10_ideal_8 hl (by decide) rfl (fun ls hl => ?_)
    refine lv_aloadN hx hb dX10_ideal_10 (lv_at hl 0 rfl) ?_
    refine lv_ifnonnullN hx hb dX10_ideal_12 ?_
    refine lv_ldc (v := (-2000000001 : Int32)) hx hb hown (hts _ (wm 2 rfl)) dX10_ideal_15 ?_
    rw [← Option.some.inj hr]
    exact xiret hx hb hr0 hlocks hW adR_rf dX10_ideal_17
  | some k_2 =>
    simp only [onl] at hr
    obtain ⟨hk5, hr⟩ := chk_e hr
    have hk5 := of_decide_eq_true hk5
    refine lv_astore (lv' := [(5, .ref (ad k_2)), (0, .ref (ad 224)), (1, .int x1), (2, .int x2), (3, .int x3), (4, .int x4)]) hx hb dX10_ideal_8 hl (by decide) rfl (fun ls hl => ?_)
    refine lv_aload hx hb dX10_ideal_10 (lv_at hl 0 rfl) ?_
    refine lv_ifnonnull (tgt := 18) hx hb dX10_ideal_12 (by decide) ?_
    refine lv_iload_n hx hb dX10_ideal_18 rfl (lv_at hl 3 rfl) ?_
    refine lv_sipush (v := (300 : Int32)) hx hb dX10_ideal_19 (by decide) ?_
    refine lv_sipush (v := (3000 : Int32)) hx hb dX10_ideal_22 (by decide) ?_
    obtain ⟨r_3, hc25, hr⟩ := ob1_e hr
    refine xk_i (va_runS (As := [.int x2, .int (300 : Int32), .int (3000 : Int32)]) (rest := []) ⟨hx, hb, hml, hown, hts⟩ (c_X10_isWithin l D cA ad M x2 (300 : Int32) (3000 : Int32) hc25) (va_cwS 3 hts gX10_ideal_X10_isWithin rfl rfl rfl (by decide +kernel) ⟨Nat.le_of_ble_eq_true rfl, Nat.le_of_ble_eq_true rfl⟩) (xpreS hK hW) rfl rfl hl.1 rfl (lv_room (Nat.le_of_ble_eq_true rfl)) dX10_ideal_25 ⟨Nat.le_of_ble_eq_true rfl, Nat.le_of_ble_eq_true rfl⟩) hW (fun H locs hW => ?_)
    refine lv_if_eq (tgt := 44) hx hb dX10_ideal_28 (by decide) (fun c1 => ?_) (fun c1 => ?_)
    · have hr := br_p c1 hr
      refine lv_ldc (v := (-2000000002 : Int32)) hx hb hown (hts _ (wm 3 rfl)) dX10_ideal_44 ?_
      rw [← Option.some.inj hr]
      exact xiret hx hb hr0 hlocks hW adR_rf dX10_ideal_46
    · have hr := br_n c1 hr
      refine lv_iload_n hx hb dX10_ideal_31 rfl (lv_at hl 4 rfl) ?_
      refine lv_sipush (v := (-20000 : Int32)) hx hb dX10_ideal_32 (by decide) ?_
      refine lv_sipush (v := (20000 : Int32)) hx hb dX10_ideal_35 (by decide) ?_
      obtain ⟨r_4, hc38, hr⟩ := ob1_e hr
      refine xk_i (va_runS (As := [.int x3, .int (-20000 : Int32), .int (20000 : Int32)]) (rest := []) ⟨hx, hb, hml, hown, hts⟩ (c_X10_isWithin l D cA ad M x3 (-20000 : Int32) (20000 : Int32) hc38) (va_cwS 3 hts gX10_ideal_X10_isWithin rfl rfl rfl (by decide +kernel) ⟨Nat.le_of_ble_eq_true rfl, Nat.le_of_ble_eq_true rfl⟩) (xpreS hK hW) rfl rfl hl.1 rfl (lv_room (Nat.le_of_ble_eq_true rfl)) dX10_ideal_38 ⟨Nat.le_of_ble_eq_true rfl, Nat.le_of_ble_eq_true rfl⟩) hW (fun H locs hW => ?_)
      refine lv_if_ne (tgt := 47) hx hb dX10_ideal_41 (by decide) (fun c1 => ?_) (fun c1 => ?_)
      · have hr := br_n c1 hr
        refine lv_aload hx hb dX10_ideal_47 (lv_at hl 0 rfl) ?_
        refine lv_iload_n hx hb dX10_ideal_49 rfl (lv_at hl 3 rfl) ?_
        refine lv_iload hx hb dX10_ideal_50 (lv_at hl 5 rfl) ?_
        obtain ⟨y_5, hr, hr3⟩ := ob1_e hr
        have hj61_5 : ∀ (H : Heap) (locs : List Loc) (ls : Array Slot), Xw D true cA ad M (AX true ad) s.heap H locs → lv_has ls 6 [] → W p l e (headSpec wsX10_ideal { frames := 2, cells := 0, slots := 0, locals := 47 }).room s m args below meth c H locs 0 0 (MQ below (QiX false D true cA ad r M) args s 0 0 (AX true ad)) (F0 m 61 ls [.int y_5, .int x2, .ref (ad k_2)]) := by
          intro H locs ls hW hl
          have hr := hr3
          obtain ⟨r_6, hc61, hr⟩ := ob1_e hr
          refine xk_i (va_runV (As := [.int x2, .int y_5]) (rest := []) ⟨hx, hb, hml, hown, hts⟩ (c_X3_idealTime l D cA ad M k_2 x2 y_5 hk5 hc61) (cwV 2 hts gX10_ideal_X3_idealTime rfl rfl rfl (by decide +kernel) ⟨Nat.le_of_ble_eq_true rfl, Nat.le_of_ble_eq_true rfl⟩) (xpreV hK hW (k := k_2) hk5 (by decide) rfl) rfl rfl hl.1 rfl (lv_room (Nat.le_of_ble_eq_true rfl)) dX10_ideal_61 ⟨Nat.le_of_ble_eq_true rfl, Nat.le_of_ble_eq_true rfl⟩) hW (fun H locs hW => ?_)
          rw [← Option.some.inj hr]
          exact xiret hx hb hr0 hlocks hW adR_rf dX10_ideal_64
        clear hr3
        refine lv_if_eq (tgt := 60) hx hb dX10_ideal_52 (by decide) (fun c1 => ?_) (fun c1 => ?_)
        · have hr := br_p c1 hr
          refine lv_iload_n hx hb dX10_ideal_60 rfl (lv_at hl 4 rfl) ?_
          have e1 := Option.some.inj hr
          subst e1
          exact hj61_5 _ _ _ hW (lv_sub hl [] rfl)
        · have hr := br_n c1 hr
          refine lv_iload_n hx hb dX10_ideal_55 rfl (lv_at hl 4 rfl) ?_
          refine lv_ineg hx hb dX10_ideal_56 ?_
          refine lv_goto (tgt := 61) hx hb dX10_ideal_57 (by decide) ?_
          have e1 := Option.some.inj hr
          subst e1
          exact hj61_5 _ _ _ hW (lv_sub hl [] rfl)
      · have hr := br_p c1 hr
        refine lv_ldc (v := (-2000000002 : Int32)) hx hb hown (hts _ (wm 3 rfl)) dX10_ideal_44 ?_
        rw [← Option.some.inj hr]
        exact xiret hx hb hr0 hlocks hW adR_rf dX10_ideal_46

set_option maxHeartbeats 4000000 in
set_option maxRecDepth 100000 in
theorem c_X10_wouldBe (l : Launch) (D : va_G) (cA : Nat → ClassId) (ad : Nat → Nat) (M : Mm) {r : Int32} {M' : Mm} (hr : f_X10_wouldBe M = some (r, M')) : Met l yX10_wouldBe wsX10_wouldBe ({ frames := 4, cells := 0, slots := 0, locals := 101 }) (PcX D true cA ad M [.ref (ad 224)]) (QiX false D true cA ad r M') 0 0 (AX true ad) := by
  refine Met.ofW (cc := cX10_wouldBe) (maxL := 1) (ret := (some .int)) (by decide) rfl ?_
  intro p e s m args below meth c s₁ B hml hv
  obtain ⟨hav, hP0, hK⟩ := hv
  have hx := B.exec
  have hb := B.bytes
  have hr0 := B.returns
  have hts := atoms_spec (ws := wsX10_wouldBe) B.pre
  have hown : s.vm.findClass RX10 = some m.cls := findClass_of_methodNamed B.named
  have hlocks := B.notSynchronized
  have hW := xstart hP0
  have hi2 : ∀ w ∈ wsX20, w ∈ wsX10_wouldBe := fun w h => List.mem_cons_of_mem _ (List.mem_append_left _ (List.mem_append_left _ (List.mem_append_left _ (List.mem_append_right _ h))))
  have hi8 : ∀ w ∈ wsX80, w ∈ wsX10_wouldBe := fun w h => List.mem_cons_of_mem _ (List.mem_append_left _ (List.mem_append_left _ (List.mem_append_left _ (List.mem_append_left _ (List.mem_append_right _ h)))))
  have hi10 : ∀ w ∈ wsX100, w ∈ wsX10_wouldBe := fun w h => List.mem_cons_of_mem _ (List.mem_append_left _ (List.mem_append_left _ (List.mem_append_left _ (List.mem_append_left _ (List.mem_append_left _ (List.mem_append_right _ h))))))
  have hl := lv_entry ([.ref (ad 224)]) (n := 1) (Nat.le_of_ble_eq_true rfl)
  have hef := lg_entry_eq m ([.ref (ad 224)]) 1
  rw [← hav] at hef
  rw [hef]
  clear hef
  generalize (lg_sl ([.ref (ad 224)]) ++ List.replicate (1 - (lg_sl ([.ref (ad 224)])).length) Slot.unset).toArray = ls at hl ⊢
  have hl : lv_has ls 1 [(0, .ref (ad 224))] := hl
  clear hP0
  unfold f_X10_wouldBe at hr
  refine lv_aload_n hx hb dX10_wouldBe_0 rfl (lv_at hl 0 rfl) ?_
  refine g10_0 hx hb hts hi10 hown hK hW (k := 224) rfl (hts _ (wm 1 rfl)) dX10_wouldBe_1 ?_
  refine g8_1 hx hb hts hi8 hown hK hW (k := 0) rfl (hts _ (wm 2 rfl)) dX10_wouldBe_4 ?_
  refine lv_if_ne (tgt := 13) hx hb dX10_wouldBe_7 (by decide) (fun c1 => ?_) (fun c1 => ?_)
  · have hr := br_n c1 hr
    refine lv_aload_n hx hb dX10_wouldBe_13 rfl (lv_at hl 0 rfl) ?_
    refine g10_6 hx hb hts hi10 hown hK hW (k := 224) rfl (hts _ (wm 4 rfl)) dX10_wouldBe_14 ?_
    refine lv_aload_n hx hb dX10_wouldBe_17 rfl (lv_at hl 0 rfl) ?_
    refine g10_0 hx hb hts hi10 hown hK hW (k := 224) rfl (hts _ (wm 1 rfl)) dX10_wouldBe_18 ?_
    refine lv_aload_n hx hb dX10_wouldBe_21 rfl (lv_at hl 0 rfl) ?_
    refine g10_0 hx hb hts hi10 hown hK hW (k := 224) rfl (hts _ (wm 1 rfl)) dX10_wouldBe_22 ?_
    refine g8_3 hx hb hts hi8 hown hK hW (k := 0) rfl (hts _ (wm 5 rfl)) dX10_wouldBe_25 ?_
    refine lv_iconst (v := (1 : Int32)) hx hb dX10_wouldBe_28 (by decide) ?_
    refine xiald hx hb hK hW (k := 13) (t := 21) rfl (by decide) (by decide) rfl (n := 5) (by decide) (jx := 1) (by decide) dX10_wouldBe_29 ?_
    obtain ⟨M_1, hc30, hr⟩ := ob1_e hr
    refine xk_v (va_runV (As := [.ref (ad 0), .int (gI M 13 1)]) (rest := []) ⟨hx, hb, hml, hown, hts⟩ (c_X2_judge l D cA ad M (gI M 13 1) hc30) (cwV 2 hts gX10_wouldBe_X2_judge rfl rfl rfl (by decide +kernel) ⟨Nat.le_of_ble_eq_true rfl, Nat.le_of_ble_eq_true rfl⟩) (xpreV hK hW (k := 232) rfl (by decide) rfl) rfl rfl hl.1 rfl (lv_room (Nat.le_of_ble_eq_true rfl)) dX10_wouldBe_30 ⟨Nat.le_of_ble_eq_true rfl, Nat.le_of_ble_eq_true rfl⟩) hW (fun H locs hW => ?_)
    refine lv_aload_n hx hb dX10_wouldBe_33 rfl (lv_at hl 0 rfl) ?_
    refine g10_6 hx hb hts hi10 hown hK hW (k := 224) rfl (hts _ (wm 4 rfl)) dX10_wouldBe_34 ?_
    refine g2_10 hx hb hts hi2 hown hK hW (k := 232) rfl (hts _ (wm 6 rfl)) dX10_wouldBe_37 ?_
    obtain ⟨e1, e2⟩ := Prod.mk.inj (Option.some.inj hr)
    rw [← e1, ← e2]
    exact xiret hx hb hr0 hlocks hW adR_rf dX10_wouldBe_40
  · have hr := br_p c1 hr
    refine lv_ldc (v := (-2000000003 : Int32)) hx hb hown (hts _ (wm 3 rfl)) dX10_wouldBe_10 ?_
    obtain ⟨e1, e2⟩ := Prod.mk.inj (Option.some.inj hr)
    rw [← e1, ← e2]
    exact xiret hx hb hr0 hlocks hW adR_rf dX10_wouldBe_12

set_option maxHeartbeats 4000000 in
set_option maxRecDepth 100000 in
theorem c_X10_wouldBecome (l : Launch) (D : va_G) (cA : Nat → ClassId) (ad : Nat → Nat) (M : Mm) (x1 : Int32) {r : Int32} {M' : Mm} (hr : f_X10_wouldBecome x1 M = some (r, M')) : Met l yX10_wouldBecome wsX10_wouldBecome ({ frames := 4, cells := 0, slots := 0, locals := 101 }) (PcX D true cA ad M [.ref (ad 224), .int x1]) (QiX false D true cA ad r M') 0 0 (AX true ad) := by
  refine Met.ofW (cc := cX10_wouldBecome) (maxL := 2) (ret := (some .int)) (by decide) rfl ?_
  intro p e s m args below meth c s₁ B hml hv
  obtain ⟨hav, hP0, hK⟩ := hv
  have hx := B.exec
  have hb := B.bytes
  have hr0 := B.returns
  have hts := atoms_spec (ws := wsX10_wouldBecome) B.pre
  have hown : s.vm.findClass RX10 = some m.cls := findClass_of_methodNamed B.named
  have hlocks := B.notSynchronized
  have hW := xstart hP0
  have hi8 : ∀ w ∈ wsX80, w ∈ wsX10_wouldBecome := fun w h => List.mem_cons_of_mem _ (List.mem_append_left _ (List.mem_append_left _ (List.mem_append_left _ (List.mem_append_left _ (List.mem_append_right _ h)))))
  have hi10 : ∀ w ∈ wsX100, w ∈ wsX10_wouldBecome := fun w h => List.mem_cons_of_mem _ (List.mem_append_left _ (List.mem_append_left _ (List.mem_append_left _ (List.mem_append_left _ (List.mem_append_left _ (List.mem_append_right _ h))))))
  have hl := lv_entry ([.ref (ad 224), .int x1]) (n := 2) (Nat.le_of_ble_eq_true rfl)
  have hef := lg_entry_eq m ([.ref (ad 224), .int x1]) 2
  rw [← hav] at hef
  rw [hef]
  clear hef
  generalize (lg_sl ([.ref (ad 224), .int x1]) ++ List.replicate (2 - (lg_sl ([.ref (ad 224), .int x1])).length) Slot.unset).toArray = ls at hl ⊢
  have hl : lv_has ls 2 [(0, .ref (ad 224)), (1, .int x1)] := hl
  clear hP0
  unfold f_X10_wouldBecome at hr
  refine lv_aload_n hx hb dX10_wouldBecome_0 rfl (lv_at hl 0 rfl) ?_
  refine g10_0 hx hb hts hi10 hown hK hW (k := 224) rfl (hts _ (wm 1 rfl)) dX10_wouldBecome_1 ?_
  refine lv_iload_n hx hb dX10_wouldBecome_4 rfl (lv_at hl 1 rfl) ?_
  obtain ⟨r_1, hc5, hr⟩ := ob1_e hr
  refine xk_q (va_runV (As := [.int x1]) (rest := []) ⟨hx, hb, hml, hown, hts⟩ (c_X8_pathAt l D cA ad M x1 hc5) (cwV 1 hts gX10_wouldBecome_X8_pathAt rfl rfl rfl (by decide +kernel) ⟨Nat.le_of_ble_eq_true rfl, Nat.le_of_ble_eq_true rfl⟩) (xpreV hK hW (k := 0) rfl (by decide) rfl) rfl rfl hl.1 rfl (lv_room (Nat.le_of_ble_eq_true rfl)) dX10_wouldBecome_5 ⟨Nat.le_of_ble_eq_true rfl, Nat.le_of_ble_eq_true rfl⟩) hW (fun H locs hW => ?_)
  cases r_1 with
  | none =>
    have hr : _ = _ := hr
    simp only [onl] at hr
    refine lv_ifnonnullN hx hb dX10_wouldBecome_8 ?_
    refine lv_ldc (v := (-2000000001 : Int32)) hx hb hown (hts _ (wm 2 rfl)) dX10_wouldBecome_11 ?_
    obtain ⟨e1, e2⟩ := Prod.mk.inj (Option.some.inj hr)
    rw [← e1, ← e2]
    exact xiret hx hb hr0 hlocks hW adR_rf dX10_wouldBecome_13
  | some k_2 =>
    simp only [onl] at hr
    obtain ⟨hk5, hr⟩ := chk_e hr
    have hk5 := of_decide_eq_true hk5
    refine lv_ifnonnull (tgt := 14) hx hb dX10_wouldBecome_8 (by decide) ?_
    refine lv_aload_n hx hb dX10_wouldBecome_14 rfl (lv_at hl 0 rfl) ?_
    refine g10_6 hx hb hts hi10 hown hK hW (k := 224) rfl (hts _ (wm 3 rfl)) dX10_wouldBecome_15 ?_
    refine lv_aload_n hx hb dX10_wouldBecome_18 rfl (lv_at hl 0 rfl) ?_
    refine g10_0 hx hb hts hi10 hown hK hW (k := 224) rfl (hts _ (wm 1 rfl)) dX10_wouldBecome_19 ?_
    refine lv_aload_n hx hb dX10_wouldBecome_22 rfl (lv_at hl 0 rfl) ?_
    refine g10_0 hx hb hts hi10 hown hK hW (k := 224) rfl (hts _ (wm 1 rfl)) dX10_wouldBecome_23 ?_
    refine g8_3 hx hb hts hi8 hown hK hW (k := 0) rfl (hts _ (wm 4 rfl)) dX10_wouldBecome_26 ?_
    refine lv_iconst (v := (1 : Int32)) hx hb dX10_wouldBecome_29 (by decide) ?_
    refine xiald hx hb hK hW (k := 13) (t := 21) rfl (by decide) (by decide) rfl (n := 5) (by decide) (jx := 1) (by decide) dX10_wouldBecome_30 ?_
    obtain ⟨M_3, hc31, hr⟩ := ob1_e hr
    refine xk_v (va_runV (As := [.ref (ad 0), .int (gI M 13 1)]) (rest := []) ⟨hx, hb, hml, hown, hts⟩ (c_X2_judge l D cA ad M (gI M 13 1) hc31) (cwV 2 hts gX10_wouldBecome_X2_judge rfl rfl rfl (by decide +kernel) ⟨Nat.le_of_ble_eq_true rfl, Nat.le_of_ble_eq_true rfl⟩) (xpreV hK hW (k := 232) rfl (by decide) rfl) rfl rfl hl.1 rfl (lv_room (Nat.le_of_ble_eq_true rfl)) dX10_wouldBecome_31 ⟨Nat.le_of_ble_eq_true rfl, Nat.le_of_ble_eq_true rfl⟩) hW (fun H locs hW => ?_)
    refine lv_aload_n hx hb dX10_wouldBecome_34 rfl (lv_at hl 0 rfl) ?_
    refine g10_6 hx hb hts hi10 hown hK hW (k := 224) rfl (hts _ (wm 3 rfl)) dX10_wouldBecome_35 ?_
    refine lv_iload_n hx hb dX10_wouldBecome_38 rfl (lv_at hl 1 rfl) ?_
    obtain ⟨r_4, hc39, hr⟩ := ob1_e hr
    refine xk_i (va_runV (As := [.int x1]) (rest := []) ⟨hx, hb, hml, hown, hts⟩ (c_X2_outcomeOf l D cA ad M_3 x1 hc39) (cwV 1 hts gX10_wouldBecome_X2_outcomeOf rfl rfl rfl (by decide +kernel) ⟨Nat.le_of_ble_eq_true rfl, Nat.le_of_ble_eq_true rfl⟩) (xpreV hK hW (k := 232) rfl (by decide) rfl) rfl rfl hl.1 rfl (lv_room (Nat.le_of_ble_eq_true rfl)) dX10_wouldBecome_39 ⟨Nat.le_of_ble_eq_true rfl, Nat.le_of_ble_eq_true rfl⟩) hW (fun H locs hW => ?_)
    obtain ⟨e1, e2⟩ := Prod.mk.inj (Option.some.inj hr)
    rw [← e1, ← e2]
    exact xiret hx hb hr0 hlocks hW adR_rf dX10_wouldBecome_42

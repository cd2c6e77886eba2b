theorem ix_nI {n : Nat} (h : n < 2 ^ 31) : ix (nI n) = n := nI_clamp h
theorem inb_nI {c N : Nat} (h : c < N) (hN : N < 2 ^ 31) : inb (nI c) N = true := by
  unfold inb
  have h1 := nI_in h hN
  have h2 : ¬ nI c < 0 := fun q => h1 (Or.inl q)
  have h3 : ¬ N ≤ (nI c).toNatClampNeg := fun q => h1 (Or.inr q)
  simp [h2, h3]
theorem adR_piH {ad : Nat → Nat} : adR true true ad (fun k => ad (piH k)) := by
  refine ⟨fun k hk => ?_, fun k hk => ⟨piH k, ?_, rfl⟩⟩
  · have e : piH k = k := by
      unfold stb at hk
      unfold piH
      simp at hk
      rw [if_neg (by omega), if_neg (by omega)]
    exact congrArg ad e
  · show piH k < 238
    have hk : k < 238 := hk
    unfold piH
    split
    · omega
    · split <;> omega
set_option maxHeartbeats 4000000 in
set_option maxRecDepth 100000 in
theorem c_X1_dropOldest (l : Launch) (D : va_G) (cA : Nat → ClassId) (ad : Nat → Nat) (M : Mm) {M' : Mm} (hr : f_X1_dropOldest M = some M') : Met l yX1_dropOldest wsX1_dropOldest ({ frames := 0, cells := 0, slots := 0, locals := 0 }) (PcX D true cA ad M [.ref (ad 225)]) (QvX true D true cA ad M') 0 0 (AX true ad) := by
  refine Met.ofW (cc := cX1_dropOldest) (maxL := 3) (ret := none) (by decide) rfl ?_
  intro p e s m args below meth c s₁ B hml hv
  obtain ⟨rfl, hP0, hK⟩ := hv
  have hx := B.exec
  have hb := B.bytes
  have hr0 := B.returns
  have hts := atoms_spec (ws := wsX1_dropOldest) B.pre
  have hown : s.vm.findClass RX1 = some m.cls := findClass_of_methodNamed B.named
  have hlocks := B.notSynchronized
  have hi1 : ∀ w ∈ wsX10, w ∈ wsX1_dropOldest := fun w h => List.mem_cons_of_mem _ (List.mem_append_right _ h)
  have hX := XS_of (x := 226) (by decide) (by decide) (xstart hP0)
  have hl := lv_entry ([.ref (ad 225)]) (n := 3) (Nat.le_of_ble_eq_true rfl)
  rw [lg_entry_eq]
  generalize (lg_sl ([.ref (ad 225)]) ++ List.replicate (3 - (lg_sl ([.ref (ad 225)])).length) Slot.unset).toArray = ls at hl ⊢
  have hl : lv_has ls 3 [(0, .ref (ad 225))] := hl
  clear hP0
  unfold f_X1_dropOldest at hr
  have hM' := Option.some.inj hr
  have k8 : ∀ i, i < 5 → KS true (28 * (i + 1)) = 8 ∧ 28 * (i + 1) ≠ 226 := by decide +kernel
  have hL : ∀ (d i : Nat) (f : Nat → Option Nat) (H : Heap) (locs : List Loc) (ls : Array Slot), i + d = 4 → (∀ j, f j = if j < 5 then (if j < i then some (ad (28 * (j + 2))) else some (ad (28 * (j + 1)))) else none) → Xs D cA ad M 226 f (AX true ad) s.heap H locs → lv_has ls 3 [(2, .int (nI (i + 1))), (1, .ref (ad 28)), (0, .ref (ad 225))] → W p l e (headSpec wsX1_dropOldest { frames := 0, cells := 0, slots := 0, locals := 0 }).room s m ([.ref (ad 225)] : List Value).toArray below meth c H locs 0 0 (MQ below (QvX true D true cA ad M') ([.ref (ad 225)] : List Value).toArray s 0 0 (AX true ad)) (F0 m 9 ls []) := by
    intro d
    induction d with
    | zero =>
      intro i f H locs ls hi hf hX hl
      have hi4 : i = 4 := by omega
      subst hi4
      refine lv_iload_n hx hb dX1_dropOldest_9 rfl (lv_at hl 0 rfl) ?_
      refine lv_iconst (v := (5 : Int32)) hx hb dX1_dropOldest_10 (by decide) ?_
      refine lv_icmp_ge (tgt := 34) hx hb dX1_dropOldest_11 (by decide) (fun _ => ?_) (fun c1 => absurd (by decide) c1)
      refine lv_aload_n hx hb dX1_dropOldest_34 rfl (lv_at hl 2 rfl) ?_
      refine xsget hx hb (T := TX1) (N := 2) (C := RX1) hts hi1 hown hK hX (k := 225) (by decide) rfl (by decide) rfl 0 (by decide) (hts _ (wm 1 rfl)) (v := .ref (ad 226)) rfl dX1_dropOldest_35 ?_
      refine lv_iconst (v := (4 : Int32)) hx hb dX1_dropOldest_38 (by decide) ?_
      refine lv_aload_n hx hb dX1_dropOldest_39 rfl (lv_at hl 1 rfl) ?_
      refine xsast hx hb hK hX (by decide) (t0 := 5) (ci := 8) (r := (RX8, TX8, 10)) rfl rfl (y := 28) (by decide) rfl (by decide) (by decide) dX1_dropOldest_40 (fun H locs hX => ?_)
      have hW := relabel (M' := shH M) piH (by decide) (by decide) (by decide +kernel) (by decide +kernel) rfl (fun j => by
        show va_up f (ix 4) (some (ad 28)) j = if j < 5 then some (ad (piH (28 * (j + 1)))) else none
        have z : ix 4 = 4 := by decide
        rw [z]
        unfold va_up
        by_cases h0 : j = 4
        · subst h0
          rfl
        · rw [if_neg h0, hf]
          by_cases h5 : j < 5
          · rw [if_pos h5, if_pos h5, if_pos (by omega)]
            unfold piH
            rw [if_pos (by omega), show 28 * (j + 1) + 28 = 28 * (j + 2) by omega]
          · rw [if_neg h5, if_neg h5]) (fun k => ⟨rfl, rfl⟩) hX
      have had := adR_piH (ad := ad)
      have e225 : ad 225 = (fun k => ad (piH k)) 225 := rfl
      have hl := lv_sub (l' := [(0, .ref (ad 225))]) hl [2] rfl
      rw [e225] at hl
      generalize (fun k => ad (piH k)) = ad2 at hW had hl
      refine lv_aload_n hx hb dX1_dropOldest_41 rfl (lv_at hl 0 rfl) ?_
      refine lv_iconst (v := (4 : Int32)) hx hb dX1_dropOldest_42 (by decide) ?_
      refine p1_1 hx hb hts hi1 hown hK hW (k := 225) rfl (hts _ (wm 2 rfl)) dX1_dropOldest_43 (fun H locs hW => ?_)
      rw [← hM']
      exact xvret hx hb hr0 hlocks hW had dX1_dropOldest_46
    | succ d ih =>
      intro i f H locs ls hi hf hX hl
      refine lv_iload_n hx hb dX1_dropOldest_9 rfl (lv_at hl 0 rfl) ?_
      refine lv_iconst (v := (5 : Int32)) hx hb dX1_dropOldest_10 (by decide) ?_
      refine lv_icmp_ge (tgt := 34) hx hb dX1_dropOldest_11 (by decide) (fun c1 => absurd c1 (nI_ge (a := i + 1) (b := 5) (by omega) (by decide))) (fun _ => ?_)
      refine lv_aload_n hx hb dX1_dropOldest_14 rfl (lv_at hl 2 rfl) ?_
      refine xsget hx hb (T := TX1) (N := 2) (C := RX1) hts hi1 hown hK hX (k := 225) (by decide) rfl (by decide) rfl 0 (by decide) (hts _ (wm 1 rfl)) (v := .ref (ad 226)) rfl dX1_dropOldest_15 ?_
      refine lv_iload_n hx hb dX1_dropOldest_18 rfl (lv_at hl 0 rfl) ?_
      refine lv_iconst (v := (1 : Int32)) hx hb dX1_dropOldest_19 (by decide) ?_
      refine lv_isub hx hb dX1_dropOldest_20 ?_
      rw [nI_pred]
      refine lv_aload_n hx hb dX1_dropOldest_21 rfl (lv_at hl 2 rfl) ?_
      refine xsget hx hb (T := TX1) (N := 2) (C := RX1) hts hi1 hown hK hX (k := 225) (by decide) rfl (by decide) rfl 0 (by decide) (hts _ (wm 1 rfl)) (v := .ref (ad 226)) rfl dX1_dropOldest_22 ?_
      refine lv_iload_n hx hb dX1_dropOldest_25 rfl (lv_at hl 0 rfl) ?_
      refine xsald hx hb hK hX (by decide) (t0 := 5) (C := "TransitMeter$State") rfl (i := nI (i + 1)) (inb_nI (N := 5) (by omega) (by decide)) (y := ad (28 * (i + 1 + 1))) (by rw [ix_nI (by omega), hf, if_pos (by omega), if_neg (by omega)]) dX1_dropOldest_26 ?_
      refine xsast hx hb hK hX (by decide) (t0 := 5) (ci := 8) (r := (RX8, TX8, 10)) rfl rfl (y := 28 * (i + 1 + 1)) (k8 (i + 1) (by omega)).2 (k8 (i + 1) (by omega)).1 (by decide) (inb_nI (N := 5) (by omega) (by decide)) dX1_dropOldest_27 (fun H locs hX => ?_)
      refine lv_iinc (v := nI (i + 1 + 1)) (lv' := [(2, .int (nI (i + 1 + 1))), (1, .ref (ad 28)), (0, .ref (ad 225))]) hx hb dX1_dropOldest_28 hl (k := 0) rfl (nI_1 (i + 1)) (by decide) rfl (fun ls hl => ?_)
      refine lv_goto (tgt := 9) hx hb dX1_dropOldest_31 (by decide) ?_
      refine ih (i + 1) _ _ _ _ (by omega) (fun j => ?_) hX hl
      rw [ix_nI (by omega)]
      unfold va_up
      by_cases h1 : j = i
      · subst h1
        rw [if_pos rfl, if_pos (by omega), if_pos (by omega)]
      · rw [if_neg h1, hf]
        by_cases h5 : j < 5
        · rw [if_pos h5, if_pos h5]
          by_cases h2 : j < i
          · rw [if_pos h2, if_pos (by omega)]
          · rw [if_neg h2, if_neg (by omega)]
        · rw [if_neg h5, if_neg h5]
  refine lv_aload_n hx hb dX1_dropOldest_0 rfl (lv_at hl 0 rfl) ?_
  refine xsget hx hb (T := TX1) (N := 2) (C := RX1) hts hi1 hown hK hX (k := 225) (by decide) rfl (by decide) rfl 0 (by decide) (hts _ (wm 1 rfl)) (v := .ref (ad 226)) rfl dX1_dropOldest_1 ?_
  refine lv_iconst (v := (0 : Int32)) hx hb dX1_dropOldest_4 (by decide) ?_
  refine xsald hx hb hK hX (by decide) (t0 := 5) (C := "TransitMeter$State") rfl (i := 0) (by decide) (y := ad 28) rfl dX1_dropOldest_5 ?_
  refine lv_astore_n (lv' := [(1, .ref (ad 28)), (0, .ref (ad 225))]) hx hb dX1_dropOldest_6 rfl hl (by decide) rfl (fun ls hl => ?_)
  refine lv_iconst (v := (1 : Int32)) hx hb dX1_dropOldest_7 (by decide) ?_
  refine lv_istore_n (lv' := [(2, .int 1), (1, .ref (ad 28)), (0, .ref (ad 225))]) hx hb dX1_dropOldest_8 rfl hl (by decide) rfl (fun ls hl => ?_)
  exact hL 4 0 _ _ _ _ rfl (fun j => by
    show (if j < 5 then some (ad (28 * (j + 1))) else none) = _
    by_cases h5 : j < 5
    · rw [if_pos h5, if_pos h5, if_neg (by omega)]
    · rw [if_neg h5, if_neg h5]) hX hl

set_option maxHeartbeats 4000000 in
set_option maxRecDepth 100000 in
theorem c_X3_begin (l : Launch) (D : va_G) (cA : Nat → ClassId) (ad : Nat → Nat) (M : Mm) (a0 : Nat) (x1 : Int32) (x2 : Int32) (x3 : Int32) (x4 : Int32) (x5 : Int32) {M' : Mm} (ha0 : KS true a0 = 3) (hr : f_X3_begin a0 x1 x2 x3 x4 x5 M = some M') : Met l yX3_begin wsX3_begin ({ frames := 0, cells := 0, slots := 0, locals := 0 }) (PcX D true cA ad M [.ref (ad a0), .int x1, .int x2, .int x3, .int x4, .int x5]) (QvX false D true cA ad M') 0 0 (AX true ad) := by
  refine Met.ofW (cc := cX3_begin) (maxL := 6) (ret := none) (by decide) rfl ?_
  intro p e s m args below meth c s₁ B hml hv
  obtain ⟨hav, hP0, hK⟩ := hv
  have hx := B.exec
  have hb := B.bytes
  have hr0 := B.returns
  have hts := atoms_spec (ws := wsX3_begin) B.pre
  have hown : s.vm.findClass RX3 = some m.cls := findClass_of_methodNamed B.named
  have hlocks := B.notSynchronized
  have hW := xstart hP0
  have hi3 : ∀ w ∈ wsX30, w ∈ wsX3_begin := fun w h => List.mem_cons_of_mem _ (List.mem_append_right _ h)
  have hl := lv_entry ([.ref (ad a0), .int x1, .int x2, .int x3, .int x4, .int x5]) (n := 6) (Nat.le_of_ble_eq_true rfl)
  have hef := lg_entry_eq m ([.ref (ad a0), .int x1, .int x2, .int x3, .int x4, .int x5]) 6
  rw [← hav] at hef
  rw [hef]
  clear hef
  generalize (lg_sl ([.ref (ad a0), .int x1, .int x2, .int x3, .int x4, .int x5]) ++ List.replicate (6 - (lg_sl ([.ref (ad a0), .int x1, .int x2, .int x3, .int x4, .int x5])).length) Slot.unset).toArray = ls at hl ⊢
  have hl : lv_has ls 6 [(0, .ref (ad a0)), (1, .int x1), (2, .int x2), (3, .int x3), (4, .int x4), (5, .int x5)] := hl
  clear hP0
  unfold f_X3_begin at hr
  refine lv_aload_n hx hb dX3_begin_0 rfl (lv_at hl 0 rfl) ?_
  refine lv_iload_n hx hb dX3_begin_1 rfl (lv_at hl 1 rfl) ?_
  obtain ⟨M_1, eM_1, hr⟩ := lt1_e hr
  refine p3_0 hx hb hts hi3 hown hK hW (k := a0) ha0 (hts _ (wm 1 rfl)) dX3_begin_2 (fun H locs hW => ?_)
  rw [← eM_1] at hW
  refine lv_aload_n hx hb dX3_begin_5 rfl (lv_at hl 0 rfl) ?_
  refine lv_iload_n hx hb dX3_begin_6 rfl (lv_at hl 2 rfl) ?_
  obtain ⟨M_2, eM_2, hr⟩ := lt1_e hr
  refine p3_1 hx hb hts hi3 hown hK hW (k := a0) ha0 (hts _ (wm 2 rfl)) dX3_begin_7 (fun H locs hW => ?_)
  rw [← eM_2] at hW
  refine lv_aload_n hx hb dX3_begin_10 rfl (lv_at hl 0 rfl) ?_
  refine lv_iload_n hx hb dX3_begin_11 rfl (lv_at hl 3 rfl) ?_
  obtain ⟨M_3, eM_3, hr⟩ := lt1_e hr
  refine p3_2 hx hb hts hi3 hown hK hW (k := a0) ha0 (hts _ (wm 3 rfl)) dX3_begin_12 (fun H locs hW => ?_)
  rw [← eM_3] at hW
  refine lv_aload_n hx hb dX3_begin_15 rfl (lv_at hl 0 rfl) ?_
  refine lv_iload hx hb dX3_begin_16 (lv_at hl 4 rfl) ?_
  obtain ⟨M_4, eM_4, hr⟩ := lt1_e hr
  refine p3_3 hx hb hts hi3 hown hK hW (k := a0) ha0 (hts _ (wm 4 rfl)) dX3_begin_18 (fun H locs hW => ?_)
  rw [← eM_4] at hW
  refine lv_aload_n hx hb dX3_begin_21 rfl (lv_at hl 0 rfl) ?_
  refine lv_iload hx hb dX3_begin_22 (lv_at hl 5 rfl) ?_
  obtain ⟨M_5, eM_5, hr⟩ := lt1_e hr
  refine p3_4 hx hb hts hi3 hown hK hW (k := a0) ha0 (hts _ (wm 5 rfl)) dX3_begin_24 (fun H locs hW => ?_)
  rw [← eM_5] at hW
  rw [← Option.some.inj hr]
  exact xvret hx hb hr0 hlocks hW adR_rf dX3_begin_27

set_option maxHeartbeats 4000000 in
set_option maxRecDepth 100000 in
theorem c_X7_copyFrom (l : Launch) (D : va_G) (cA : Nat → ClassId) (ad : Nat → Nat) (M : Mm) (a0 : Nat) (a1 : Nat) {M' : Mm} (ha0 : KS true a0 = 7) (ha1 : KS true a1 = 7) (hr : f_X7_copyFrom a0 a1 M = some M') : Met l yX7_copyFrom wsX7_copyFrom ({ frames := 0, cells := 0, slots := 0, locals := 0 }) (PcX D true cA ad M [.ref (ad a0), .ref (ad a1)]) (QvX false D true cA ad M') 0 0 (AX true ad) := by
  refine Met.ofW (cc := cX7_copyFrom) (maxL := 2) (ret := none) (by decide) rfl ?_
  intro p e s m args below meth c s₁ B hml hv
  obtain ⟨hav, hP0, hK⟩ := hv
  have hx := B.exec
  have hb := B.bytes
  have hr0 := B.returns
  have hts := atoms_spec (ws := wsX7_copyFrom) B.pre
  have hown : s.vm.findClass RX7 = some m.cls := findClass_of_methodNamed B.named
  have hlocks := B.notSynchronized
  have hW := xstart hP0
  have hi7 : ∀ w ∈ wsX70, w ∈ wsX7_copyFrom := fun w h => List.mem_cons_of_mem _ (List.mem_append_right _ h)
  have hl := lv_entry ([.ref (ad a0), .ref (ad a1)]) (n := 2) (Nat.le_of_ble_eq_true rfl)
  have hef := lg_entry_eq m ([.ref (ad a0), .ref (ad a1)]) 2
  rw [← hav] at hef
  rw [hef]
  clear hef
  generalize (lg_sl ([.ref (ad a0), .ref (ad a1)]) ++ List.replicate (2 - (lg_sl ([.ref (ad a0), .ref (ad a1)])).length) Slot.unset).toArray = ls at hl ⊢
  have hl : lv_has ls 2 [(0, .ref (ad a0)), (1, .ref (ad a1))] := hl
  clear hP0
  unfold f_X7_copyFrom at hr
  refine lv_aload_n hx hb dX7_copyFrom_0 rfl (lv_at hl 0 rfl) ?_
  refine lv_aload_n hx hb dX7_copyFrom_1 rfl (lv_at hl 1 rfl) ?_
  refine g7_0 hx hb hts hi7 hown hK hW (k := a1) ha1 (hts _ (wm 1 rfl)) dX7_copyFrom_2 ?_
  obtain ⟨hz5, hr⟩ := chk_e hr
  obtain ⟨M_1, eM_1, hr⟩ := lt1_e hr
  refine p7_0 hx hb hts hi7 hown hK hW (k := a0) ha0 (hts _ (wm 1 rfl)) hz5 dX7_copyFrom_5 (fun H locs hW => ?_)
  rw [← eM_1] at hW
  refine lv_aload_n hx hb dX7_copyFrom_8 rfl (lv_at hl 0 rfl) ?_
  refine lv_aload_n hx hb dX7_copyFrom_9 rfl (lv_at hl 1 rfl) ?_
  refine g7_1 hx hb hts hi7 hown hK hW (k := a1) ha1 (hts _ (wm 2 rfl)) dX7_copyFrom_10 ?_
  obtain ⟨M_2, eM_2, hr⟩ := lt1_e hr
  refine p7_1 hx hb hts hi7 hown hK hW (k := a0) ha0 (hts _ (wm 2 rfl)) dX7_copyFrom_13 (fun H locs hW => ?_)
  rw [← eM_2] at hW
  refine lv_aload_n hx hb dX7_copyFrom_16 rfl (lv_at hl 0 rfl) ?_
  refine lv_aload_n hx hb dX7_copyFrom_17 rfl (lv_at hl 1 rfl) ?_
  refine g7_2 hx hb hts hi7 hown hK hW (k := a1) ha1 (hts _ (wm 3 rfl)) dX7_copyFrom_18 ?_
  obtain ⟨M_3, eM_3, hr⟩ := lt1_e hr
  refine p7_2 hx hb hts hi7 hown hK hW (k := a0) ha0 (hts _ (wm 3 rfl)) dX7_copyFrom_21 (fun H locs hW => ?_)
  rw [← eM_3] at hW
  refine lv_aload_n hx hb dX7_copyFrom_24 rfl (lv_at hl 0 rfl) ?_
  refine lv_aload_n hx hb dX7_copyFrom_25 rfl (lv_at hl 1 rfl) ?_
  refine g7_3 hx hb hts hi7 hown hK hW (k := a1) ha1 (hts _ (wm 4 rfl)) dX7_copyFrom_26 ?_
  obtain ⟨M_4, eM_4, hr⟩ := lt1_e hr
  refine p7_3 hx hb hts hi7 hown hK hW (k := a0) ha0 (hts _ (wm 4 rfl)) dX7_copyFrom_29 (fun H locs hW => ?_)
  rw [← eM_4] at hW
  rw [← Option.some.inj hr]
  exact xvret hx hb hr0 hlocks hW adR_rf dX7_copyFrom_32

set_option maxHeartbeats 4000000 in
set_option maxRecDepth 100000 in
theorem c_X3_copyFrom (l : Launch) (D : va_G) (cA : Nat → ClassId) (ad : Nat → Nat) (M : Mm) (a0 : Nat) (a1 : Nat) {M' : Mm} (ha0 : KS true a0 = 3) (ha1 : KS true a1 = 3) (hr : f_X3_copyFrom a0 a1 M = some M') : Met l yX3_copyFrom wsX3_copyFrom ({ frames := 1, cells := 0, slots := 0, locals := 25 }) (PcX D true cA ad M [.ref (ad a0), .ref (ad a1)]) (QvX false D true cA ad M') 0 0 (AX true ad) := by
  refine Met.ofW (cc := cX3_copyFrom) (maxL := 2) (ret := none) (by decide) rfl ?_
  intro p e s m args below meth c s₁ B hml hv
  obtain ⟨hav, hP0, hK⟩ := hv
  have hx := B.exec
  have hb := B.bytes
  have hr0 := B.returns
  have hts := atoms_spec (ws := wsX3_copyFrom) B.pre
  have hown : s.vm.findClass RX3 = some m.cls := findClass_of_methodNamed B.named
  have hlocks := B.notSynchronized
  have hW := xstart hP0
  have hi3 : ∀ w ∈ wsX30, w ∈ wsX3_copyFrom := fun w h => List.mem_cons_of_mem _ (List.mem_append_left _ (List.mem_append_right _ h))
  have hl := lv_entry ([.ref (ad a0), .ref (ad a1)]) (n := 2) (Nat.le_of_ble_eq_true rfl)
  have hef := lg_entry_eq m ([.ref (ad a0), .ref (ad a1)]) 2
  rw [← hav] at hef
  rw [hef]
  clear hef
  generalize (lg_sl ([.ref (ad a0), .ref (ad a1)]) ++ List.replicate (2 - (lg_sl ([.ref (ad a0), .ref (ad a1)])).length) Slot.unset).toArray = ls at hl ⊢
  have hl : lv_has ls 2 [(0, .ref (ad a0)), (1, .ref (ad a1))] := hl
  clear hP0
  unfold f_X3_copyFrom at hr
  refine lv_aload_n hx hb dX3_copyFrom_0 rfl (lv_at hl 0 rfl) ?_
  refine lv_aload_n hx hb dX3_copyFrom_1 rfl (lv_at hl 1 rfl) ?_
  refine g3_0 hx hb hts hi3 hown hK hW (k := a1) ha1 (hts _ (wm 1 rfl)) dX3_copyFrom_2 ?_
  refine lv_aload_n hx hb dX3_copyFrom_5 rfl (lv_at hl 1 rfl) ?_
  refine g3_1 hx hb hts hi3 hown hK hW (k := a1) ha1 (hts _ (wm 2 rfl)) dX3_copyFrom_6 ?_
  refine lv_aload_n hx hb dX3_copyFrom_9 rfl (lv_at hl 1 rfl) ?_
  refine g3_2 hx hb hts hi3 hown hK hW (k := a1) ha1 (hts _ (wm 3 rfl)) dX3_copyFrom_10 ?_
  refine lv_aload_n hx hb dX3_copyFrom_13 rfl (lv_at hl 1 rfl) ?_
  refine g3_3 hx hb hts hi3 hown hK hW (k := a1) ha1 (hts _ (wm 4 rfl)) dX3_copyFrom_14 ?_
  refine lv_aload_n hx hb dX3_copyFrom_17 rfl (lv_at hl 1 rfl) ?_
  refine g3_4 hx hb hts hi3 hown hK hW (k := a1) ha1 (hts _ (wm 5 rfl)) dX3_copyFrom_18 ?_
  obtain ⟨M_1, hc21, hr⟩ := ob1_e hr
  refine xk_v (va_runV (As := [.int (gI M a1 0), .int (gI M a1 1), .int (gI M a1 2), .int (gI M a1 3), .int (gI M a1 4)]) (rest := []) ⟨hx, hb, hml, hown, hts⟩ (c_X3_begin l D cA ad M a0 (gI M a1 0) (gI M a1 1) (gI M a1 2) (gI M a1 3) (gI M a1 4) ha0 hc21) (cwV 5 hts gX3_copyFrom_X3_begin rfl rfl rfl (by decide +kernel) ⟨Nat.le_of_ble_eq_true rfl, Nat.le_of_ble_eq_true rfl⟩) (xpreV hK hW (k := a0) ha0 (by decide) rfl) rfl rfl hl.1 rfl (lv_room (Nat.le_of_ble_eq_true rfl)) dX3_copyFrom_21 ⟨Nat.le_of_ble_eq_true rfl, Nat.le_of_ble_eq_true rfl⟩) hW (fun H locs hW => ?_)
  refine lv_aload_n hx hb dX3_copyFrom_24 rfl (lv_at hl 0 rfl) ?_
  refine lv_aload_n hx hb dX3_copyFrom_25 rfl (lv_at hl 1 rfl) ?_
  refine g3_5 hx hb hts hi3 hown hK hW (k := a1) ha1 (hts _ (wm 6 rfl)) dX3_copyFrom_26 ?_
  obtain ⟨hz29, hr⟩ := chk_e hr
  obtain ⟨M_2, eM_2, hr⟩ := lt1_e hr
  refine p3_5 hx hb hts hi3 hown hK hW (k := a0) ha0 (hts _ (wm 6 rfl)) hz29 dX3_copyFrom_29 (fun H locs hW => ?_)
  rw [← eM_2] at hW
  refine lv_aload_n hx hb dX3_copyFrom_32 rfl (lv_at hl 0 rfl) ?_
  refine lv_aload_n hx hb dX3_copyFrom_33 rfl (lv_at hl 1 rfl) ?_
  refine g3_6 hx hb hts hi3 hown hK hW (k := a1) ha1 (hts _ (wm 7 rfl)) dX3_copyFrom_34 ?_
  obtain ⟨M_3, eM_3, hr⟩ := lt1_e hr
  refine p3_6 hx hb hts hi3 hown hK hW (k := a0) ha0 (hts _ (wm 7 rfl)) dX3_copyFrom_37 (fun H locs hW => ?_)
  rw [← eM_3] at hW
  refine lv_aload_n hx hb dX3_copyFrom_40 rfl (lv_at hl 0 rfl) ?_
  refine lv_aload_n hx hb dX3_copyFrom_41 rfl (lv_at hl 1 rfl) ?_
  refine g3_7 hx hb hts hi3 hown hK hW (k := a1) ha1 (hts _ (wm 8 rfl)) dX3_copyFrom_42 ?_
  obtain ⟨M_4, eM_4, hr⟩ := lt1_e hr
  refine p3_7 hx hb hts hi3 hown hK hW (k := a0) ha0 (hts _ (wm 8 rfl)) dX3_copyFrom_45 (fun H locs hW => ?_)
  rw [← eM_4] at hW
  refine lv_aload_n hx hb dX3_copyFrom_48 rfl (lv_at hl 0 rfl) ?_
  refine lv_aload_n hx hb dX3_copyFrom_49 rfl (lv_at hl 1 rfl) ?_
  refine g3_8 hx hb hts hi3 hown hK hW (k := a1) ha1 (hts _ (wm 9 rfl)) dX3_copyFrom_50 ?_
  obtain ⟨hz53, hr⟩ := chk_e hr
  obtain ⟨M_5, eM_5, hr⟩ := lt1_e hr
  refine p3_8 hx hb hts hi3 hown hK hW (k := a0) ha0 (hts _ (wm 9 rfl)) hz53 dX3_copyFrom_53 (fun H locs hW => ?_)
  rw [← eM_5] at hW
  refine lv_aload_n hx hb dX3_copyFrom_56 rfl (lv_at hl 0 rfl) ?_
  refine lv_aload_n hx hb dX3_copyFrom_57 rfl (lv_at hl 1 rfl) ?_
  refine g3_9 hx hb hts hi3 hown hK hW (k := a1) ha1 (hts _ (wm 10 rfl)) dX3_copyFrom_58 ?_
  obtain ⟨M_6, eM_6, hr⟩ := lt1_e hr
  refine p3_9 hx hb hts hi3 hown hK hW (k := a0) ha0 (hts _ (wm 10 rfl)) dX3_copyFrom_61 (fun H locs hW => ?_)
  rw [← eM_6] at hW
  refine lv_aload_n hx hb dX3_copyFrom_64 rfl (lv_at hl 0 rfl) ?_
  refine lv_aload_n hx hb dX3_copyFrom_65 rfl (lv_at hl 1 rfl) ?_
  refine g3_10 hx hb hts hi3 hown hK hW (k := a1) ha1 (hts _ (wm 11 rfl)) dX3_copyFrom_66 ?_
  obtain ⟨M_7, eM_7, hr⟩ := lt1_e hr
  refine p3_10 hx hb hts hi3 hown hK hW (k := a0) ha0 (hts _ (wm 11 rfl)) dX3_copyFrom_69 (fun H locs hW => ?_)
  rw [← eM_7] at hW
  refine lv_aload_n hx hb dX3_copyFrom_72 rfl (lv_at hl 0 rfl) ?_
  refine lv_aload_n hx hb dX3_copyFrom_73 rfl (lv_at hl 1 rfl) ?_
  refine g3_11 hx hb hts hi3 hown hK hW (k := a1) ha1 (hts _ (wm 12 rfl)) dX3_copyFrom_74 ?_
  obtain ⟨M_8, eM_8, hr⟩ := lt1_e hr
  refine p3_11 hx hb hts hi3 hown hK hW (k := a0) ha0 (hts _ (wm 12 rfl)) dX3_copyFrom_77 (fun H locs hW => ?_)
  rw [← eM_8] at hW
  refine lv_aload_n hx hb dX3_copyFrom_80 rfl (lv_at hl 0 rfl) ?_
  refine lv_aload_n hx hb dX3_copyFrom_81 rfl (lv_at hl 1 rfl) ?_
  refine g3_12 hx hb hts hi3 hown hK hW (k := a1) ha1 (hts _ (wm 13 rfl)) dX3_copyFrom_82 ?_
  obtain ⟨M_9, eM_9, hr⟩ := lt1_e hr
  refine p3_12 hx hb hts hi3 hown hK hW (k := a0) ha0 (hts _ (wm 13 rfl)) dX3_copyFrom_85 (fun H locs hW => ?_)
  rw [← eM_9] at hW
  refine lv_aload_n hx hb dX3_copyFrom_88 rfl (lv_at hl 0 rfl) ?_
  refine lv_aload_n hx hb dX3_copyFrom_89 rfl (lv_at hl 1 rfl) ?_
  refine g3_13 hx hb hts hi3 hown hK hW (k := a1) ha1 (hts _ (wm 14 rfl)) dX3_copyFrom_90 ?_
  obtain ⟨M_10, eM_10, hr⟩ := lt1_e hr
  refine p3_13 hx hb hts hi3 hown hK hW (k := a0) ha0 (hts _ (wm 14 rfl)) dX3_copyFrom_93 (fun H locs hW => ?_)
  rw [← eM_10] at hW
  refine lv_aload_n hx hb dX3_copyFrom_96 rfl (lv_at hl 0 rfl) ?_
  refine lv_aload_n hx hb dX3_copyFrom_97 rfl (lv_at hl 1 rfl) ?_
  refine g3_14 hx hb hts hi3 hown hK hW (k := a1) ha1 (hts _ (wm 15 rfl)) dX3_copyFrom_98 ?_
  obtain ⟨M_11, eM_11, hr⟩ := lt1_e hr
  refine p3_14 hx hb hts hi3 hown hK hW (k := a0) ha0 (hts _ (wm 15 rfl)) dX3_copyFrom_101 (fun H locs hW => ?_)
  rw [← eM_11] at hW
  refine lv_aload_n hx hb dX3_copyFrom_104 rfl (lv_at hl 0 rfl) ?_
  refine g3_15 hx hb hts hi3 hown hK hW (k := a0) ha0 (hts _ (wm 16 rfl)) dX3_copyFrom_105 ?_
  refine lv_aload_n hx hb dX3_copyFrom_108 rfl (lv_at hl 1 rfl) ?_
  refine g3_15 hx hb hts hi3 hown hK hW (k := a1) ha1 (hts _ (wm 16 rfl)) dX3_copyFrom_109 ?_
  obtain ⟨M_12, hc112, hr⟩ := ob1_e hr
  refine xk_v (va_runV (As := [.ref (ad (a1 + 1))]) (rest := []) ⟨hx, hb, hml, hown, hts⟩ (c_X7_copyFrom l D cA ad M_11 (a0 + 1) (a1 + 1) (ks_3s ha0) (ks_3s ha1) hc112) (cwV 1 hts gX3_copyFrom_X7_copyFrom rfl rfl rfl (by decide +kernel) ⟨Nat.le_of_ble_eq_true rfl, Nat.le_of_ble_eq_true rfl⟩) (xpreV hK hW (k := (a0 + 1)) (ks_3s ha0) (by decide) rfl) rfl rfl hl.1 rfl (lv_room (Nat.le_of_ble_eq_true rfl)) dX3_copyFrom_112 ⟨Nat.le_of_ble_eq_true rfl, Nat.le_of_ble_eq_true rfl⟩) hW (fun H locs hW => ?_)
  rw [← Option.some.inj hr]
  exact xvret hx hb hr0 hlocks hW adR_rf dX3_copyFrom_115

set_option maxHeartbeats 4000000 in
set_option maxRecDepth 100000 in
theorem c_X4_copyFrom (l : Launch) (D : va_G) (cA : Nat → ClassId) (ad : Nat → Nat) (M : Mm) (a0 : Nat) (a1 : Nat) {M' : Mm} (ha0 : KS true a0 = 4) (ha1 : KS true a1 = 4) (hr : f_X4_copyFrom a0 a1 M = some M') : Met l yX4_copyFrom wsX4_copyFrom ({ frames := 1, cells := 0, slots := 0, locals := 60 }) (PcX D true cA ad M [.ref (ad a0), .ref (ad a1)]) (QvX false D true cA ad M') 0 0 (AX true ad) := by
  refine Met.ofW (cc := cX4_copyFrom) (maxL := 2) (ret := none) (by decide) rfl ?_
  intro p e s m args below meth c s₁ B hml hv
  obtain ⟨hav, hP0, hK⟩ := hv
  have hx := B.exec
  have hb := B.bytes
  have hr0 := B.returns
  have hts := atoms_spec (ws := wsX4_copyFrom) B.pre
  have hown : s.vm.findClass RX4 = some m.cls := findClass_of_methodNamed B.named
  have hlocks := B.notSynchronized
  have hW := xstart hP0
  have hi4 : ∀ w ∈ wsX40, w ∈ wsX4_copyFrom := fun w h => List.mem_cons_of_mem _ (List.mem_append_right _ h)
  have hl := lv_entry ([.ref (ad a0), .ref (ad a1)]) (n := 2) (Nat.le_of_ble_eq_true rfl)
  have hef := lg_entry_eq m ([.ref (ad a0), .ref (ad a1)]) 2
  rw [← hav] at hef
  rw [hef]
  clear hef
  generalize (lg_sl ([.ref (ad a0), .ref (ad a1)]) ++ List.replicate (2 - (lg_sl ([.ref (ad a0), .ref (ad a1)])).length) Slot.unset).toArray = ls at hl ⊢
  have hl : lv_has ls 2 [(0, .ref (ad a0)), (1, .ref (ad a1))] := hl
  clear hP0
  unfold f_X4_copyFrom at hr
  refine lv_aload_n hx hb dX4_copyFrom_0 rfl (lv_at hl 1 rfl) ?_
  refine g4_0 hx hb hts hi4 hown hK hW (k := a1) ha1 (hts _ (wm 1 rfl)) dX4_copyFrom_1 ?_
  refine lv_iconst (v := (0 : Int32)) hx hb dX4_copyFrom_4 (by decide) ?_
  refine lv_aload_n hx hb dX4_copyFrom_5 rfl (lv_at hl 0 rfl) ?_
  refine g4_0 hx hb hts hi4 hown hK hW (k := a0) ha0 (hts _ (wm 1 rfl)) dX4_copyFrom_6 ?_
  refine lv_iconst (v := (0 : Int32)) hx hb dX4_copyFrom_9 (by decide) ?_
  refine lv_bipush (v := (6 : Int32)) hx hb dX4_copyFrom_10 (by decide) ?_
  obtain ⟨M_1, eM_1, hr⟩ := lt1_e hr
  refine xcopy hx hb (hml.trans hl.1.symm) hown (hts _ (wm 2 rfl)) (hts _ (wm 3 rfl)) (hts _ (wm 4 rfl)) (hts _ (wm 5 rfl)) hK hW (k0 := (a1 + 1)) (k1 := (a0 + 1)) (ks_4a ha1) (by decide) (by decide) (ks_4a ha0) (by decide) (by decide) (n := (6 : Int32)) (N := 6) (by decide) rfl (by decide) (by decide) (Nat.le_of_ble_eq_true rfl) (by decide +kernel) dX4_copyFrom_12 (fun H locs hW => ?_)
  rw [← eM_1] at hW
  refine lv_aload_n hx hb dX4_copyFrom_15 rfl (lv_at hl 1 rfl) ?_
  refine g4_1 hx hb hts hi4 hown hK hW (k := a1) ha1 (hts _ (wm 6 rfl)) dX4_copyFrom_16 ?_
  refine lv_iconst (v := (0 : Int32)) hx hb dX4_copyFrom_19 (by decide) ?_
  refine lv_aload_n hx hb dX4_copyFrom_20 rfl (lv_at hl 0 rfl) ?_
  refine g4_1 hx hb hts hi4 hown hK hW (k := a0) ha0 (hts _ (wm 6 rfl)) dX4_copyFrom_21 ?_
  refine lv_iconst (v := (0 : Int32)) hx hb dX4_copyFrom_24 (by decide) ?_
  refine lv_bipush (v := (6 : Int32)) hx hb dX4_copyFrom_25 (by decide) ?_
  obtain ⟨M_2, eM_2, hr⟩ := lt1_e hr
  refine xcopy hx hb (hml.trans hl.1.symm) hown (hts _ (wm 2 rfl)) (hts _ (wm 3 rfl)) (hts _ (wm 4 rfl)) (hts _ (wm 5 rfl)) hK hW (k0 := (a1 + 2)) (k1 := (a0 + 2)) (ks_4b ha1) (by decide) (by decide) (ks_4b ha0) (by decide) (by decide) (n := (6 : Int32)) (N := 6) (by decide) rfl (by decide) (by decide) (Nat.le_of_ble_eq_true rfl) (by decide +kernel) dX4_copyFrom_27 (fun H locs hW => ?_)
  rw [← eM_2] at hW
  refine lv_aload_n hx hb dX4_copyFrom_30 rfl (lv_at hl 0 rfl) ?_
  refine lv_aload_n hx hb dX4_copyFrom_31 rfl (lv_at hl 1 rfl) ?_
  refine g4_2 hx hb hts hi4 hown hK hW (k := a1) ha1 (hts _ (wm 7 rfl)) dX4_copyFrom_32 ?_
  obtain ⟨M_3, eM_3, hr⟩ := lt1_e hr
  refine p4_2 hx hb hts hi4 hown hK hW (k := a0) ha0 (hts _ (wm 7 rfl)) dX4_copyFrom_35 (fun H locs hW => ?_)
  rw [← eM_3] at hW
  rw [← Option.some.inj hr]
  exact xvret hx hb hr0 hlocks hW adR_rf dX4_copyFrom_38

set_option maxHeartbeats 4000000 in
set_option maxRecDepth 100000 in
theorem c_X5_copyFrom (l : Launch) (D : va_G) (cA : Nat → ClassId) (ad : Nat → Nat) (M : Mm) (a0 : Nat) (a1 : Nat) {M' : Mm} (ha0 : KS true a0 = 5) (ha1 : KS true a1 = 5) (hr : f_X5_copyFrom a0 a1 M = some M') : Met l yX5_copyFrom wsX5_copyFrom ({ frames := 0, cells := 0, slots := 0, locals := 0 }) (PcX D true cA ad M [.ref (ad a0), .ref (ad a1)]) (QvX false D true cA ad M') 0 0 (AX true ad) := by
  refine Met.ofW (cc := cX5_copyFrom) (maxL := 2) (ret := none) (by decide) rfl ?_
  intro p e s m args below meth c s₁ B hml hv
  obtain ⟨hav, hP0, hK⟩ := hv
  have hx := B.exec
  have hb := B.bytes
  have hr0 := B.returns
  have hts := atoms_spec (ws := wsX5_copyFrom) B.pre
  have hown : s.vm.findClass RX5 = some m.cls := findClass_of_methodNamed B.named
  have hlocks := B.notSynchronized
  have hW := xstart hP0
  have hi5 : ∀ w ∈ wsX50, w ∈ wsX5_copyFrom := fun w h => List.mem_cons_of_mem _ (List.mem_append_right _ h)
  have hl := lv_entry ([.ref (ad a0), .ref (ad a1)]) (n := 2) (Nat.le_of_ble_eq_true rfl)
  have hef := lg_entry_eq m ([.ref (ad a0), .ref (ad a1)]) 2
  rw [← hav] at hef
  rw [hef]
  clear hef
  generalize (lg_sl ([.ref (ad a0), .ref (ad a1)]) ++ List.replicate (2 - (lg_sl ([.ref (ad a0), .ref (ad a1)])).length) Slot.unset).toArray = ls at hl ⊢
  have hl : lv_has ls 2 [(0, .ref (ad a0)), (1, .ref (ad a1))] := hl
  clear hP0
  unfold f_X5_copyFrom at hr
  refine lv_aload_n hx hb dX5_copyFrom_0 rfl (lv_at hl 0 rfl) ?_
  refine lv_aload_n hx hb dX5_copyFrom_1 rfl (lv_at hl 1 rfl) ?_
  refine g5_0 hx hb hts hi5 hown hK hW (k := a1) ha1 (hts _ (wm 1 rfl)) dX5_copyFrom_2 ?_
  obtain ⟨M_1, eM_1, hr⟩ := lt1_e hr
  refine p5_0 hx hb hts hi5 hown hK hW (k := a0) ha0 (hts _ (wm 1 rfl)) dX5_copyFrom_5 (fun H locs hW => ?_)
  rw [← eM_1] at hW
  refine lv_aload_n hx hb dX5_copyFrom_8 rfl (lv_at hl 0 rfl) ?_
  refine lv_aload_n hx hb dX5_copyFrom_9 rfl (lv_at hl 1 rfl) ?_
  refine g5_1 hx hb hts hi5 hown hK hW (k := a1) ha1 (hts _ (wm 2 rfl)) dX5_copyFrom_10 ?_
  obtain ⟨M_2, eM_2, hr⟩ := lt1_e hr
  refine p5_1 hx hb hts hi5 hown hK hW (k := a0) ha0 (hts _ (wm 2 rfl)) dX5_copyFrom_13 (fun H locs hW => ?_)
  rw [← eM_2] at hW
  refine lv_aload_n hx hb dX5_copyFrom_16 rfl (lv_at hl 0 rfl) ?_
  refine lv_aload_n hx hb dX5_copyFrom_17 rfl (lv_at hl 1 rfl) ?_
  refine g5_2 hx hb hts hi5 hown hK hW (k := a1) ha1 (hts _ (wm 3 rfl)) dX5_copyFrom_18 ?_
  obtain ⟨M_3, eM_3, hr⟩ := lt1_e hr
  refine p5_2 hx hb hts hi5 hown hK hW (k := a0) ha0 (hts _ (wm 3 rfl)) dX5_copyFrom_21 (fun H locs hW => ?_)
  rw [← eM_3] at hW
  refine lv_aload_n hx hb dX5_copyFrom_24 rfl (lv_at hl 0 rfl) ?_
  refine lv_aload_n hx hb dX5_copyFrom_25 rfl (lv_at hl 1 rfl) ?_
  refine g5_3 hx hb hts hi5 hown hK hW (k := a1) ha1 (hts _ (wm 4 rfl)) dX5_copyFrom_26 ?_
  obtain ⟨M_4, eM_4, hr⟩ := lt1_e hr
  refine p5_3 hx hb hts hi5 hown hK hW (k := a0) ha0 (hts _ (wm 4 rfl)) dX5_copyFrom_29 (fun H locs hW => ?_)
  rw [← eM_4] at hW
  refine lv_aload_n hx hb dX5_copyFrom_32 rfl (lv_at hl 0 rfl) ?_
  refine lv_aload_n hx hb dX5_copyFrom_33 rfl (lv_at hl 1 rfl) ?_
  refine g5_4 hx hb hts hi5 hown hK hW (k := a1) ha1 (hts _ (wm 5 rfl)) dX5_copyFrom_34 ?_
  obtain ⟨M_5, eM_5, hr⟩ := lt1_e hr
  refine p5_4 hx hb hts hi5 hown hK hW (k := a0) ha0 (hts _ (wm 5 rfl)) dX5_copyFrom_37 (fun H locs hW => ?_)
  rw [← eM_5] at hW
  refine lv_aload_n hx hb dX5_copyFrom_40 rfl (lv_at hl 0 rfl) ?_
  refine lv_aload_n hx hb dX5_copyFrom_41 rfl (lv_at hl 1 rfl) ?_
  refine g5_5 hx hb hts hi5 hown hK hW (k := a1) ha1 (hts _ (wm 6 rfl)) dX5_copyFrom_42 ?_
  obtain ⟨M_6, eM_6, hr⟩ := lt1_e hr
  refine p5_5 hx hb hts hi5 hown hK hW (k := a0) ha0 (hts _ (wm 6 rfl)) dX5_copyFrom_45 (fun H locs hW => ?_)
  rw [← eM_6] at hW
  rw [← Option.some.inj hr]
  exact xvret hx hb hr0 hlocks hW adR_rf dX5_copyFrom_48

set_option maxHeartbeats 4000000 in
set_option maxRecDepth 100000 in
theorem c_X6_copyFrom (l : Launch) (D : va_G) (cA : Nat → ClassId) (ad : Nat → Nat) (M : Mm) (a0 : Nat) (a1 : Nat) {M' : Mm} (ha0 : KS true a0 = 6) (ha1 : KS true a1 = 6) (hr : f_X6_copyFrom a0 a1 M = some M') : Met l yX6_copyFrom wsX6_copyFrom ({ frames := 1, cells := 0, slots := 0, locals := 21 }) (PcX D true cA ad M [.ref (ad a0), .ref (ad a1)]) (QvX false D true cA ad M') 0 0 (AX true ad) := by
  refine Met.ofW (cc := cX6_copyFrom) (maxL := 3) (ret := none) (by decide) rfl ?_
  intro p e s m args below meth c s₁ B hml hv
  obtain ⟨hav, hP0, hK⟩ := hv
  have hx := B.exec
  have hb := B.bytes
  have hr0 := B.returns
  have hts := atoms_spec (ws := wsX6_copyFrom) B.pre
  have hown : s.vm.findClass RX6 = some m.cls := findClass_of_methodNamed B.named
  have hlocks := B.notSynchronized
  have hW := xstart hP0
  have hi6 : ∀ w ∈ wsX60, w ∈ wsX6_copyFrom := fun w h => List.mem_cons_of_mem _ (List.mem_append_left _ (List.mem_append_right _ h))
  have hl := lv_entry ([.ref (ad a0), .ref (ad a1)]) (n := 3) (Nat.le_of_ble_eq_true rfl)
  have hef := lg_entry_eq m ([.ref (ad a0), .ref (ad a1)]) 3
  rw [← hav] at hef
  rw [hef]
  clear hef
  generalize (lg_sl ([.ref (ad a0), .ref (ad a1)]) ++ List.replicate (3 - (lg_sl ([.ref (ad a0), .ref (ad a1)])).length) Slot.unset).toArray = ls at hl ⊢
  have hl : lv_has ls 3 [(0, .ref (ad a0)), (1, .ref (ad a1))] := hl
  clear hP0
  unfold f_X6_copyFrom at hr
  refine lv_iconst (v := (0 : Int32)) hx hb dX6_copyFrom_0 (by decide) ?_
  refine lv_istore_n (lv' := [(2, .int (0 : Int32)), (0, .ref (ad a0)), (1, .ref (ad a1))]) hx hb dX6_copyFrom_1 rfl hl (by decide) rfl (fun ls hl => ?_)
  have hL2_1 : ∀ (n : Nat) (x2_1 : Int32) (M_2 : Mm) (H : Heap) (locs : List Loc) (ls : Array Slot) (M_3 : Mm), Xw D true cA ad M_2 (AX true ad) s.heap H locs → lv_has ls 3 [(0, .ref (ad a0)), (1, .ref (ad a1)), (2, .int x2_1)] → f_X6_copyFrom_L2 a0 a1 n x2_1 M_2 = some M_3 → (∀ (H : Heap) (locs : List Loc) (ls : Array Slot), Xw D true cA ad M_3 (AX true ad) s.heap H locs → lv_has ls 3 [(0, .ref (ad a0)), (1, .ref (ad a1))] → W p l e (headSpec wsX6_copyFrom { frames := 1, cells := 0, slots := 0, locals := 21 }).room s m args below meth c H locs 0 0 (MQ below (QvX false D true cA ad M') args s 0 0 (AX true ad)) (F0 m 29 ls [])) → W p l e (headSpec wsX6_copyFrom { frames := 1, cells := 0, slots := 0, locals := 21 }).room s m args below meth c H locs 0 0 (MQ below (QvX false D true cA ad M') args s 0 0 (AX true ad)) (F0 m 2 ls []) := by
    intro n
    induction n with
    | zero =>
      intro x2_1 M_2 H locs ls M_3 hW hl hr hk
      exact absurd hr (by simp [f_X6_copyFrom_L2])
    | succ n ih =>
      intro x2_1 M_2 H locs ls M_3 hW hl hr hk
      rw [f_X6_copyFrom_L2] at hr
      refine lv_iload_n hx hb dX6_copyFrom_2 rfl (lv_at hl 2 rfl) ?_
      refine lv_bipush (v := (12 : Int32)) hx hb dX6_copyFrom_3 (by decide) ?_
      refine lv_icmp_ge (tgt := 29) hx hb dX6_copyFrom_5 (by decide) (fun c1 => ?_) (fun c1 => ?_)
      · have hr := br_p c1 hr
        have e1 := Option.some.inj hr
        subst e1
        exact hk _ _ _ hW (lv_sub hl [0, 1] rfl)
      · have hr := br_n c1 hr
        refine lv_aload_n hx hb dX6_copyFrom_8 rfl (lv_at hl 0 rfl) ?_
        refine g6_0 hx hb hts hi6 hown hK hW (k := a0) ha0 (hts _ (wm 1 rfl)) dX6_copyFrom_9 ?_
        refine lv_iload_n hx hb dX6_copyFrom_12 rfl (lv_at hl 2 rfl) ?_
        obtain ⟨hn13, hr⟩ := chk_e hr
        refine xaald hx hb hK hW (k := (a0 + 1)) (t := 51) (ks_6k ha0) (by decide) (by decide) rfl (t0 := 4) rfl hn13 dX6_copyFrom_13 ?_
        refine lv_aload_n hx hb dX6_copyFrom_14 rfl (lv_at hl 1 rfl) ?_
        refine g6_0 hx hb hts hi6 hown hK hW (k := a1) ha1 (hts _ (wm 1 rfl)) dX6_copyFrom_15 ?_
        refine lv_iload_n hx hb dX6_copyFrom_18 rfl (lv_at hl 2 rfl) ?_
        obtain ⟨hn19, hr⟩ := chk_e hr
        refine xaald hx hb hK hW (k := (a1 + 1)) (t := 51) (ks_6k ha1) (by decide) (by decide) rfl (t0 := 4) rfl hn19 dX6_copyFrom_19 ?_
        obtain ⟨M_4, hc20, hr⟩ := ob1_e hr
        refine xk_v (va_runV (As := [.ref (ad (rid 51 (a1 + 1) (ix x2_1)))]) (rest := []) ⟨hx, hb, hml, hown, hts⟩ (c_X5_copyFrom l D cA ad M_2 (rid 51 (a0 + 1) (ix x2_1)) (rid 51 (a1 + 1) (ix x2_1)) (ks_51 (k := (a0 + 1)) (ks_6k ha0) hn13) (ks_51 (k := (a1 + 1)) (ks_6k ha1) hn19) hc20) (cwV 1 hts gX6_copyFrom_X5_copyFrom rfl rfl rfl (by decide +kernel) ⟨Nat.le_of_ble_eq_true rfl, Nat.le_of_ble_eq_true rfl⟩) (xpreV hK hW (k := (rid 51 (a0 + 1) (ix x2_1))) (ks_51 (k := (a0 + 1)) (ks_6k ha0) hn13) (by decide) rfl) rfl rfl hl.1 rfl (lv_room (Nat.le_of_ble_eq_true rfl)) dX6_copyFrom_20 ⟨Nat.le_of_ble_eq_true rfl, Nat.le_of_ble_eq_true rfl⟩) hW (fun H locs hW => ?_)
        obtain ⟨x2_5, ex2_5, hr⟩ := lt1_e hr
        refine lv_iinc (v := x2_5) (lv' := [(2, .int x2_5), (0, .ref (ad a0)), (1, .ref (ad a1))]) hx hb dX6_copyFrom_23 hl (k := 2) rfl (by rw [ex2_5]; rfl) (by decide) rfl (fun ls hl => ?_)
        refine lv_goto (tgt := 2) hx hb dX6_copyFrom_26 (by decide) ?_
        exact ih x2_5 M_4 _ _ _ _ hW (lv_sub hl [1, 2, 0] rfl) hr hk
  obtain ⟨M_3, hr, hr3⟩ := ob1_e hr
  refine hL2_1 1000 (0 : Int32) M _ _ _ M_3 hW (lv_sub hl [1, 2, 0] rfl) hr (fun H locs ls hW hl => ?_)
  clear hr
  have hr := hr3
  refine lv_aload_n hx hb dX6_copyFrom_29 rfl (lv_at hl 0 rfl) ?_
  refine lv_aload_n hx hb dX6_copyFrom_30 rfl (lv_at hl 1 rfl) ?_
  refine g6_1 hx hb hts hi6 hown hK hW (k := a1) ha1 (hts _ (wm 2 rfl)) dX6_copyFrom_31 ?_
  obtain ⟨M_6, eM_6, hr⟩ := lt1_e hr
  refine p6_1 hx hb hts hi6 hown hK hW (k := a0) ha0 (hts _ (wm 2 rfl)) dX6_copyFrom_34 (fun H locs hW => ?_)
  rw [← eM_6] at hW
  rw [← Option.some.inj hr]
  exact xvret hx hb hr0 hlocks hW adR_rf dX6_copyFrom_37

set_option maxHeartbeats 4000000 in
set_option maxRecDepth 100000 in
theorem c_X8_copyFrom (l : Launch) (D : va_G) (cA : Nat → ClassId) (ad : Nat → Nat) (M : Mm) (a0 : Nat) (a1 : Nat) {M' : Mm} (ha0 : KS true a0 = 8) (ha1 : KS true a1 = 8) (hr : f_X8_copyFrom a0 a1 M = some M') : Met l yX8_copyFrom wsX8_copyFrom ({ frames := 2, cells := 0, slots := 0, locals := 81 }) (PcX D true cA ad M [.ref (ad a0), .ref (ad a1)]) (QvX false D true cA ad M') 0 0 (AX true ad) := by
  refine Met.ofW (cc := cX8_copyFrom) (maxL := 3) (ret := none) (by decide) rfl ?_
  intro p e s m args below meth c s₁ B hml hv
  obtain ⟨hav, hP0, hK⟩ := hv
  have hx := B.exec
  have hb := B.bytes
  have hr0 := B.returns
  have hts := atoms_spec (ws := wsX8_copyFrom) B.pre
  have hown : s.vm.findClass RX8 = some m.cls := findClass_of_methodNamed B.named
  have hlocks := B.notSynchronized
  have hW := xstart hP0
  have hi8 : ∀ w ∈ wsX80, w ∈ wsX8_copyFrom := fun w h => List.mem_cons_of_mem _ (List.mem_append_left _ (List.mem_append_left _ (List.mem_append_left _ (List.mem_append_left _ (List.mem_append_left _ (List.mem_append_right _ h))))))
  have hl := lv_entry ([.ref (ad a0), .ref (ad a1)]) (n := 3) (Nat.le_of_ble_eq_true rfl)
  have hef := lg_entry_eq m ([.ref (ad a0), .ref (ad a1)]) 3
  rw [← hav] at hef
  rw [hef]
  clear hef
  generalize (lg_sl ([.ref (ad a0), .ref (ad a1)]) ++ List.replicate (3 - (lg_sl ([.ref (ad a0), .ref (ad a1)])).length) Slot.unset).toArray = ls at hl ⊢
  have hl : lv_has ls 3 [(0, .ref (ad a0)), (1, .ref (ad a1))] := hl
  clear hP0
  unfold f_X8_copyFrom at hr
  refine lv_iconst (v := (0 : Int32)) hx hb dX8_copyFrom_0 (by decide) ?_
  refine lv_istore_n (lv' := [(2, .int (0 : Int32)), (0, .ref (ad a0)), (1, .ref (ad a1))]) hx hb dX8_copyFrom_1 rfl hl (by decide) rfl (fun ls hl => ?_)
  have hL2_1 : ∀ (n : Nat) (x2_1 : Int32) (M_2 : Mm) (H : Heap) (locs : List Loc) (ls : Array Slot) (M_3 : Mm), Xw D true cA ad M_2 (AX true ad) s.heap H locs → lv_has ls 3 [(0, .ref (ad a0)), (1, .ref (ad a1)), (2, .int x2_1)] → f_X8_copyFrom_L2 a0 a1 n x2_1 M_2 = some M_3 → (∀ (H : Heap) (locs : List Loc) (ls : Array Slot), Xw D true cA ad M_3 (AX true ad) s.heap H locs → lv_has ls 3 [(0, .ref (ad a0)), (1, .ref (ad a1))] → W p l e (headSpec wsX8_copyFrom { frames := 2, cells := 0, slots := 0, locals := 81 }).room s m args below meth c H locs 0 0 (MQ below (QvX false D true cA ad M') args s 0 0 (AX true ad)) (F0 m 28 ls [])) → W p l e (headSpec wsX8_copyFrom { frames := 2, cells := 0, slots := 0, locals := 81 }).room s m args below meth c H locs 0 0 (MQ below (QvX false D true cA ad M') args s 0 0 (AX true ad)) (F0 m 2 ls []) := by
    intro n
    induction n with
    | zero =>
      intro x2_1 M_2 H locs ls M_3 hW hl hr hk
      exact absurd hr (by simp [f_X8_copyFrom_L2])
    | succ n ih =>
      intro x2_1 M_2 H locs ls M_3 hW hl hr hk
      rw [f_X8_copyFrom_L2] at hr
      refine lv_iload_n hx hb dX8_copyFrom_2 rfl (lv_at hl 2 rfl) ?_
      refine lv_iconst (v := (4 : Int32)) hx hb dX8_copyFrom_3 (by decide) ?_
      refine lv_icmp_ge (tgt := 28) hx hb dX8_copyFrom_4 (by decide) (fun c1 => ?_) (fun c1 => ?_)
      · have hr := br_p c1 hr
        have e1 := Option.some.inj hr
        subst e1
        exact hk _ _ _ hW (lv_sub hl [0, 1] rfl)
      · have hr := br_n c1 hr
        refine lv_aload_n hx hb dX8_copyFrom_7 rfl (lv_at hl 0 rfl) ?_
        refine g8_0 hx hb hts hi8 hown hK hW (k := a0) ha0 (hts _ (wm 1 rfl)) dX8_copyFrom_8 ?_
        refine lv_iload_n hx hb dX8_copyFrom_11 rfl (lv_at hl 2 rfl) ?_
        obtain ⟨hn12, hr⟩ := chk_e hr
        refine xaald hx hb hK hW (k := (a0 + 1)) (t := 50) (ks_8p ha0) (by decide) (by decide) rfl (t0 := 3) rfl hn12 dX8_copyFrom_12 ?_
        refine lv_aload_n hx hb dX8_copyFrom_13 rfl (lv_at hl 1 rfl) ?_
        refine g8_0 hx hb hts hi8 hown hK hW (k := a1) ha1 (hts _ (wm 1 rfl)) dX8_copyFrom_14 ?_
        refine lv_iload_n hx hb dX8_copyFrom_17 rfl (lv_at hl 2 rfl) ?_
        obtain ⟨hn18, hr⟩ := chk_e hr
        refine xaald hx hb hK hW (k := (a1 + 1)) (t := 50) (ks_8p ha1) (by decide) (by decide) rfl (t0 := 3) rfl hn18 dX8_copyFrom_18 ?_
        obtain ⟨M_4, hc19, hr⟩ := ob1_e hr
        refine xk_v (va_runV (As := [.ref (ad (rid 50 (a1 + 1) (ix x2_1)))]) (rest := []) ⟨hx, hb, hml, hown, hts⟩ (c_X3_copyFrom l D cA ad M_2 (rid 50 (a0 + 1) (ix x2_1)) (rid 50 (a1 + 1) (ix x2_1)) (ks_50 (k := (a0 + 1)) (ks_8p ha0) hn12) (ks_50 (k := (a1 + 1)) (ks_8p ha1) hn18) hc19) (cwV 1 hts gX8_copyFrom_X3_copyFrom rfl rfl rfl (by decide +kernel) ⟨Nat.le_of_ble_eq_true rfl, Nat.le_of_ble_eq_true rfl⟩) (xpreV hK hW (k := (rid 50 (a0 + 1) (ix x2_1))) (ks_50 (k := (a0 + 1)) (ks_8p ha0) hn12) (by decide) rfl) rfl rfl hl.1 rfl (lv_room (Nat.le_of_ble_eq_true rfl)) dX8_copyFrom_19 ⟨Nat.le_of_ble_eq_true rfl, Nat.le_of_ble_eq_true rfl⟩) hW (fun H locs hW => ?_)
        obtain ⟨x2_5, ex2_5, hr⟩ := lt1_e hr
        refine lv_iinc (v := x2_5) (lv' := [(2, .int x2_5), (0, .ref (ad a0)), (1, .ref (ad a1))]) hx hb dX8_copyFrom_22 hl (k := 2) rfl (by rw [ex2_5]; rfl) (by decide) rfl (fun ls hl => ?_)
        refine lv_goto (tgt := 2) hx hb dX8_copyFrom_25 (by decide) ?_
        exact ih x2_5 M_4 _ _ _ _ hW (lv_sub hl [1, 2, 0] rfl) hr hk
  obtain ⟨M_3, hr, hr3⟩ := ob1_e hr
  refine hL2_1 1000 (0 : Int32) M _ _ _ M_3 hW (lv_sub hl [1, 2, 0] rfl) hr (fun H locs ls hW hl => ?_)
  clear hr
  have hr := hr3
  refine lv_aload_n hx hb dX8_copyFrom_28 rfl (lv_at hl 0 rfl) ?_
  refine lv_aload_n hx hb dX8_copyFrom_29 rfl (lv_at hl 1 rfl) ?_
  refine g8_1 hx hb hts hi8 hown hK hW (k := a1) ha1 (hts _ (wm 2 rfl)) dX8_copyFrom_30 ?_
  obtain ⟨M_6, eM_6, hr⟩ := lt1_e hr
  refine p8_1 hx hb hts hi8 hown hK hW (k := a0) ha0 (hts _ (wm 2 rfl)) dX8_copyFrom_33 (fun H locs hW => ?_)
  rw [← eM_6] at hW
  refine lv_aload_n hx hb dX8_copyFrom_36 rfl (lv_at hl 0 rfl) ?_
  refine g8_2 hx hb hts hi8 hown hK hW (k := a0) ha0 (hts _ (wm 3 rfl)) dX8_copyFrom_37 ?_
  refine lv_aload_n hx hb dX8_copyFrom_40 rfl (lv_at hl 1 rfl) ?_
  refine g8_2 hx hb hts hi8 hown hK hW (k := a1) ha1 (hts _ (wm 3 rfl)) dX8_copyFrom_41 ?_
  obtain ⟨M_7, hc44, hr⟩ := ob1_e hr
  refine xk_v (va_runV (As := [.ref (ad (a1 + 10))]) (rest := []) ⟨hx, hb, hml, hown, hts⟩ (c_X4_copyFrom l D cA ad M_6 (a0 + 10) (a1 + 10) (ks_8f ha0) (ks_8f ha1) hc44) (cwV 1 hts gX8_copyFrom_X4_copyFrom rfl rfl rfl (by decide +kernel) ⟨Nat.le_of_ble_eq_true rfl, Nat.le_of_ble_eq_true rfl⟩) (xpreV hK hW (k := (a0 + 10)) (ks_8f ha0) (by decide) rfl) rfl rfl hl.1 rfl (lv_room (Nat.le_of_ble_eq_true rfl)) dX8_copyFrom_44 ⟨Nat.le_of_ble_eq_true rfl, Nat.le_of_ble_eq_true rfl⟩) hW (fun H locs hW => ?_)
  refine lv_aload_n hx hb dX8_copyFrom_47 rfl (lv_at hl 1 rfl) ?_
  refine g8_3 hx hb hts hi8 hown hK hW (k := a1) ha1 (hts _ (wm 4 rfl)) dX8_copyFrom_48 ?_
  refine lv_iconst (v := (0 : Int32)) hx hb dX8_copyFrom_51 (by decide) ?_
  refine lv_aload_n hx hb dX8_copyFrom_52 rfl (lv_at hl 0 rfl) ?_
  refine g8_3 hx hb hts hi8 hown hK hW (k := a0) ha0 (hts _ (wm 4 rfl)) dX8_copyFrom_53 ?_
  refine lv_iconst (v := (0 : Int32)) hx hb dX8_copyFrom_56 (by decide) ?_
  refine lv_iconst (v := (5 : Int32)) hx hb dX8_copyFrom_57 (by decide) ?_
  obtain ⟨M_8, eM_8, hr⟩ := lt1_e hr
  refine xcopy hx hb (hml.trans hl.1.symm) hown (hts _ (wm 5 rfl)) (hts _ (wm 6 rfl)) (hts _ (wm 7 rfl)) (hts _ (wm 8 rfl)) hK hW (k0 := (a1 + 13)) (k1 := (a0 + 13)) (ks_8s ha1) (by decide) (by decide) (ks_8s ha0) (by decide) (by decide) (n := (5 : Int32)) (N := 5) (by decide) rfl (by decide) (by decide) (Nat.le_of_ble_eq_true rfl) (by decide +kernel) dX8_copyFrom_58 (fun H locs hW => ?_)
  rw [← eM_8] at hW
  refine lv_aload_n hx hb dX8_copyFrom_61 rfl (lv_at hl 0 rfl) ?_
  refine lv_aload_n hx hb dX8_copyFrom_62 rfl (lv_at hl 1 rfl) ?_
  refine g8_4 hx hb hts hi8 hown hK hW (k := a1) ha1 (hts _ (wm 9 rfl)) dX8_copyFrom_63 ?_
  obtain ⟨hz66, hr⟩ := chk_e hr
  obtain ⟨M_9, eM_9, hr⟩ := lt1_e hr
  refine p8_4 hx hb hts hi8 hown hK hW (k := a0) ha0 (hts _ (wm 9 rfl)) hz66 dX8_copyFrom_66 (fun H locs hW => ?_)
  rw [← eM_9] at hW
  refine lv_aload_n hx hb dX8_copyFrom_69 rfl (lv_at hl 0 rfl) ?_
  refine g8_5 hx hb hts hi8 hown hK hW (k := a0) ha0 (hts _ (wm 10 rfl)) dX8_copyFrom_70 ?_
  refine lv_aload_n hx hb dX8_copyFrom_73 rfl (lv_at hl 1 rfl) ?_
  refine g8_5 hx hb hts hi8 hown hK hW (k := a1) ha1 (hts _ (wm 10 rfl)) dX8_copyFrom_74 ?_
  obtain ⟨M_10, hc77, hr⟩ := ob1_e hr
  refine xk_v (va_runV (As := [.ref (ad (a1 + 14))]) (rest := []) ⟨hx, hb, hml, hown, hts⟩ (c_X6_copyFrom l D cA ad M_9 (a0 + 14) (a1 + 14) (ks_8r ha0) (ks_8r ha1) hc77) (cwV 1 hts gX8_copyFrom_X6_copyFrom rfl rfl rfl (by decide +kernel) ⟨Nat.le_of_ble_eq_true rfl, Nat.le_of_ble_eq_true rfl⟩) (xpreV hK hW (k := (a0 + 14)) (ks_8r ha0) (by decide) rfl) rfl rfl hl.1 rfl (lv_room (Nat.le_of_ble_eq_true rfl)) dX8_copyFrom_77 ⟨Nat.le_of_ble_eq_true rfl, Nat.le_of_ble_eq_true rfl⟩) hW (fun H locs hW => ?_)
  refine lv_aload_n hx hb dX8_copyFrom_80 rfl (lv_at hl 0 rfl) ?_
  refine lv_aload_n hx hb dX8_copyFrom_81 rfl (lv_at hl 1 rfl) ?_
  refine g8_6 hx hb hts hi8 hown hK hW (k := a1) ha1 (hts _ (wm 11 rfl)) dX8_copyFrom_82 ?_
  obtain ⟨M_11, eM_11, hr⟩ := lt1_e hr
  refine p8_6 hx hb hts hi8 hown hK hW (k := a0) ha0 (hts _ (wm 11 rfl)) dX8_copyFrom_85 (fun H locs hW => ?_)
  rw [← eM_11] at hW
  refine lv_aload_n hx hb dX8_copyFrom_88 rfl (lv_at hl 0 rfl) ?_
  refine lv_aload_n hx hb dX8_copyFrom_89 rfl (lv_at hl 1 rfl) ?_
  refine g8_7 hx hb hts hi8 hown hK hW (k := a1) ha1 (hts _ (wm 12 rfl)) dX8_copyFrom_90 ?_
  obtain ⟨M_12, eM_12, hr⟩ := lt1_e hr
  refine p8_7 hx hb hts hi8 hown hK hW (k := a0) ha0 (hts _ (wm 12 rfl)) dX8_copyFrom_93 (fun H locs hW => ?_)
  rw [← eM_12] at hW
  refine lv_aload_n hx hb dX8_copyFrom_96 rfl (lv_at hl 0 rfl) ?_
  refine lv_aload_n hx hb dX8_copyFrom_97 rfl (lv_at hl 1 rfl) ?_
  refine g8_8 hx hb hts hi8 hown hK hW (k := a1) ha1 (hts _ (wm 13 rfl)) dX8_copyFrom_98 ?_
  obtain ⟨M_13, eM_13, hr⟩ := lt1_e hr
  refine p8_8 hx hb hts hi8 hown hK hW (k := a0) ha0 (hts _ (wm 13 rfl)) dX8_copyFrom_101 (fun H locs hW => ?_)
  rw [← eM_13] at hW
  refine lv_aload_n hx hb dX8_copyFrom_104 rfl (lv_at hl 0 rfl) ?_
  refine lv_aload_n hx hb dX8_copyFrom_105 rfl (lv_at hl 1 rfl) ?_
  refine g8_9 hx hb hts hi8 hown hK hW (k := a1) ha1 (hts _ (wm 14 rfl)) dX8_copyFrom_106 ?_
  obtain ⟨M_14, eM_14, hr⟩ := lt1_e hr
  refine p8_9 hx hb hts hi8 hown hK hW (k := a0) ha0 (hts _ (wm 14 rfl)) dX8_copyFrom_109 (fun H locs hW => ?_)
  rw [← eM_14] at hW
  rw [← Option.some.inj hr]
  exact xvret hx hb hr0 hlocks hW adR_rf dX8_copyFrom_112

set_option maxHeartbeats 4000000 in
set_option maxRecDepth 100000 in
theorem c_X1_push (l : Launch) (D : va_G) (cA : Nat → ClassId) (ad : Nat → Nat) (M : Mm) {M' : Mm} (hr : f_X1_push M = some M') : Met l yX1_push wsX1_push ({ frames := 3, cells := 0, slots := 0, locals := 103 }) (PcX D true cA ad M [.ref (ad 225), .ref (ad 0)]) (QvX true D true cA ad M') 0 0 (AX true ad) := by
  refine Met.ofW (cc := cX1_push) (maxL := 2) (ret := none) (by decide) rfl ?_
  intro p e s m args below meth c s₁ B hml hv
  obtain ⟨hav, hP0, hK⟩ := hv
  have hx := B.exec
  have hb := B.bytes
  have hr0 := B.returns
  have hts := atoms_spec (ws := wsX1_push) B.pre
  have hown : s.vm.findClass RX1 = some m.cls := findClass_of_methodNamed B.named
  have hlocks := B.notSynchronized
  have hW := xstart hP0
  have hi1 : ∀ w ∈ wsX10, w ∈ wsX1_push := fun w h => List.mem_cons_of_mem _ (List.mem_append_left _ (List.mem_append_left _ (List.mem_append_left _ (List.mem_append_left _ (List.mem_append_left _ (List.mem_append_left _ (List.mem_append_right _ h)))))))
  have hl := lv_entry ([.ref (ad 225), .ref (ad 0)]) (n := 2) (Nat.le_of_ble_eq_true rfl)
  have hef := lg_entry_eq m ([.ref (ad 225), .ref (ad 0)]) 2
  rw [← hav] at hef
  rw [hef]
  clear hef
  generalize (lg_sl ([.ref (ad 225), .ref (ad 0)]) ++ List.replicate (2 - (lg_sl ([.ref (ad 225), .ref (ad 0)])).length) Slot.unset).toArray = ls at hl ⊢
  have hl : lv_has ls 2 [(0, .ref (ad 225)), (1, .ref (ad 0))] := hl
  clear hP0
  unfold f_X1_push at hr
  refine lv_aload_n hx hb dX1_push_0 rfl (lv_at hl 0 rfl) ?_
  refine g1_1 hx hb hts hi1 hown hK hW (k := 225) rfl (hts _ (wm 1 rfl)) dX1_push_1 ?_
  refine lv_iconst (v := (5 : Int32)) hx hb dX1_push_4 (by decide) ?_
  obtain ⟨M_1, hr, hr3⟩ := ob1_e hr
  have hj12_2 : ∀ (ad_2 : Nat → Nat) (H : Heap) (locs : List Loc) (ls : Array Slot), adR true true ad ad_2 → Xw D true cA ad_2 M_1 (AX true ad) s.heap H locs → lv_has ls 2 [(0, .ref (ad_2 225)), (1, .ref (ad_2 0))] → W p l e (headSpec wsX1_push { frames := 3, cells := 0, slots := 0, locals := 103 }).room s m args below meth c H locs 0 0 (MQ below (QvX true D true cA ad M') args s 0 0 (AX true ad)) (F0 m 12 ls []) := by
    intro ad_2 H locs ls had hW hl
    have hr := hr3
    refine lv_aload_n hx hb dX1_push_12 rfl (lv_at hl 0 rfl) ?_
    refine g1_1 hx hb hts hi1 hown hK hW (k := 225) rfl (hts _ (wm 1 rfl)) dX1_push_13 ?_
    refine lv_if_lt (tgt := 50) hx hb dX1_push_16 (by decide) (fun c1 => ?_) (fun c1 => ?_)
    · have hr := br_p c1 hr
      rw [← Option.some.inj hr]
      exact xvret hx hb hr0 hlocks hW had dX1_push_50
    · have hr := br_n c1 hr
      refine lv_aload_n hx hb dX1_push_19 rfl (lv_at hl 0 rfl) ?_
      refine g1_1 hx hb hts hi1 hown hK hW (k := 225) rfl (hts _ (wm 1 rfl)) dX1_push_20 ?_
      refine lv_iconst (v := (5 : Int32)) hx hb dX1_push_23 (by decide) ?_
      refine lv_icmp_ge (tgt := 50) hx hb dX1_push_24 (by decide) (fun c1 => ?_) (fun c1 => ?_)
      · have hr := br_p c1 hr
        rw [← Option.some.inj hr]
        exact xvret hx hb hr0 hlocks hW had dX1_push_50
      · have hr := br_n c1 hr
        refine lv_aload_n hx hb dX1_push_27 rfl (lv_at hl 0 rfl) ?_
        refine g1_0 hx hb hts hi1 hown hK hW (k := 225) rfl (hts _ (wm 2 rfl)) dX1_push_28 ?_
        refine lv_aload_n hx hb dX1_push_31 rfl (lv_at hl 0 rfl) ?_
        refine g1_1 hx hb hts hi1 hown hK hW (k := 225) rfl (hts _ (wm 1 rfl)) dX1_push_32 ?_
        obtain ⟨hn35, hr⟩ := chk_e hr
        refine xaald hx hb hK hW (k := 226) (t := 52) rfl (by decide) (by decide) rfl (t0 := 5) rfl hn35 dX1_push_35 ?_
        refine lv_aload_n hx hb dX1_push_36 rfl (lv_at hl 1 rfl) ?_
        obtain ⟨M_5, hc37, hr⟩ := ob1_e hr
        refine xk_v (va_runV (As := [.ref (ad_2 0)]) (rest := []) ⟨hx, hb, hml, hown, hts⟩ (c_X8_copyFrom l D cA ad_2 M_1 (rid 52 226 (ix (gI M_1 225 1))) 0 (ks_52 (k := 226) rfl hn35) (rfl : KS true 0 = 8) hc37) (cwV 1 hts gX1_push_X8_copyFrom rfl rfl rfl (by decide +kernel) ⟨Nat.le_of_ble_eq_true rfl, Nat.le_of_ble_eq_true rfl⟩) (xpreV hK hW (k := (rid 52 226 (ix (gI M_1 225 1)))) (ks_52 (k := 226) rfl hn35) (by decide) rfl) rfl rfl hl.1 rfl (lv_room (Nat.le_of_ble_eq_true rfl)) dX1_push_37 ⟨Nat.le_of_ble_eq_true rfl, Nat.le_of_ble_eq_true rfl⟩) hW (fun H locs hW => ?_)
        refine lv_aload_n hx hb dX1_push_40 rfl (lv_at hl 0 rfl) ?_
        refine lv_dup hx hb dX1_push_41 rfl ?_
        refine g1_1 hx hb hts hi1 hown hK hW (k := 225) rfl (hts _ (wm 1 rfl)) dX1_push_42 ?_
        refine lv_iconst (v := (1 : Int32)) hx hb dX1_push_45 (by decide) ?_
        refine lv_iadd hx hb dX1_push_46 ?_
        obtain ⟨M_6, eM_6, hr⟩ := lt1_e hr
        refine p1_1 hx hb hts hi1 hown hK hW (k := 225) rfl (hts _ (wm 1 rfl)) dX1_push_47 (fun H locs hW => ?_)
        rw [← eM_6] at hW
        rw [← Option.some.inj hr]
        exact xvret hx hb hr0 hlocks hW had dX1_push_50
  clear hr3
  refine lv_icmp_lt (tgt := 12) hx hb dX1_push_5 (by decide) (fun c1 => ?_) (fun c1 => ?_)
  · have hr := br_p c1 hr
    have e1 := Option.some.inj hr
    subst e1
    exact hj12_2 ad _ _ _ adR_rf hW (lv_sub hl [0, 1] rfl)
  · have hr := br_n c1 hr
    refine lv_aload_n hx hb dX1_push_8 rfl (lv_at hl 0 rfl) ?_
    obtain ⟨M_3, hc9, hr⟩ := ob1_e hr
    refine xc_v (va_runV (As := []) (rest := []) ⟨hx, hb, hml, hown, hts⟩ (c_X1_dropOldest l D cA ad M hc9) (cwV 0 hts gX1_push_X1_dropOldest rfl rfl rfl (by decide +kernel) ⟨Nat.le_of_ble_eq_true rfl, Nat.le_of_ble_eq_true rfl⟩) (xpreV hK hW (k := 225) rfl (by decide) rfl) rfl rfl hl.1 rfl (lv_room (Nat.le_of_ble_eq_true rfl)) dX1_push_9 ⟨Nat.le_of_ble_eq_true rfl, Nat.le_of_ble_eq_true rfl⟩) hW (fun ad_4 H locs had2 hW => ?_)
    rw [← had2.1 225 rfl] at hl
    rw [← had2.1 0 rfl] at hl
    have had := had2
    have e1 := Option.some.inj hr
    subst e1
    exact hj12_2 ad_4 _ _ _ had hW (lv_sub hl [0, 1] rfl)

set_option maxHeartbeats 4000000 in
set_option maxRecDepth 100000 in
theorem c_X1_pop (l : Launch) (D : va_G) (cA : Nat → ClassId) (ad : Nat → Nat) (M : Mm) {M' : Mm} (hr : f_X1_pop M = some M') : Met l yX1_pop wsX1_pop ({ frames := 3, cells := 0, slots := 0, locals := 103 }) (PcX D true cA ad M [.ref (ad 225), .ref (ad 0)]) (QvX false D true cA ad M') 0 0 (AX true ad) := by
  refine Met.ofW (cc := cX1_pop) (maxL := 2) (ret := none) (by decide) rfl ?_
  intro p e s m args below meth c s₁ B hml hv
  obtain ⟨hav, hP0, hK⟩ := hv
  have hx := B.exec
  have hb := B.bytes
  have hr0 := B.returns
  have hts := atoms_spec (ws := wsX1_pop) B.pre
  have hown : s.vm.findClass RX1 = some m.cls := findClass_of_methodNamed B.named
  have hlocks := B.notSynchronized
  have hW := xstart hP0
  have hi1 : ∀ w ∈ wsX10, w ∈ wsX1_pop := fun w h => List.mem_cons_of_mem _ (List.mem_append_left _ (List.mem_append_left _ (List.mem_append_left _ (List.mem_append_left _ (List.mem_append_left _ (List.mem_append_left _ (List.mem_append_right _ h)))))))
  have hl := lv_entry ([.ref (ad 225), .ref (ad 0)]) (n := 2) (Nat.le_of_ble_eq_true rfl)
  have hef := lg_entry_eq m ([.ref (ad 225), .ref (ad 0)]) 2
  rw [← hav] at hef
  rw [hef]
  clear hef
  generalize (lg_sl ([.ref (ad 225), .ref (ad 0)]) ++ List.replicate (2 - (lg_sl ([.ref (ad 225), .ref (ad 0)])).length) Slot.unset).toArray = ls at hl ⊢
  have hl : lv_has ls 2 [(0, .ref (ad 225)), (1, .ref (ad 0))] := hl
  clear hP0
  unfold f_X1_pop at hr
  refine lv_aload_n hx hb dX1_pop_0 rfl (lv_at hl 0 rfl) ?_
  refine g1_1 hx hb hts hi1 hown hK hW (k := 225) rfl (hts _ (wm 1 rfl)) dX1_pop_1 ?_
  refine lv_if_le (tgt := 38) hx hb dX1_pop_4 (by decide) (fun c1 => ?_) (fun c1 => ?_)
  · have hr := br_p c1 hr
    rw [← Option.some.inj hr]
    exact xvret hx hb hr0 hlocks hW adR_rf dX1_pop_38
  · have hr := br_n c1 hr
    refine lv_aload_n hx hb dX1_pop_7 rfl (lv_at hl 0 rfl) ?_
    refine g1_1 hx hb hts hi1 hown hK hW (k := 225) rfl (hts _ (wm 1 rfl)) dX1_pop_8 ?_
    refine lv_iconst (v := (5 : Int32)) hx hb dX1_pop_11 (by decide) ?_
    refine lv_icmp_gt (tgt := 38) hx hb dX1_pop_12 (by decide) (fun c1 => ?_) (fun c1 => ?_)
    · have hr := br_p c1 hr
      rw [← Option.some.inj hr]
      exact xvret hx hb hr0 hlocks hW adR_rf dX1_pop_38
    · have hr := br_n c1 hr
      refine lv_aload_n hx hb dX1_pop_15 rfl (lv_at hl 0 rfl) ?_
      refine lv_dup hx hb dX1_pop_16 rfl ?_
      refine g1_1 hx hb hts hi1 hown hK hW (k := 225) rfl (hts _ (wm 1 rfl)) dX1_pop_17 ?_
      refine lv_iconst (v := (1 : Int32)) hx hb dX1_pop_20 (by decide) ?_
      refine lv_isub hx hb dX1_pop_21 ?_
      obtain ⟨M_1, eM_1, hr⟩ := lt1_e hr
      refine p1_1 hx hb hts hi1 hown hK hW (k := 225) rfl (hts _ (wm 1 rfl)) dX1_pop_22 (fun H locs hW => ?_)
      rw [← eM_1] at hW
      refine lv_aload_n hx hb dX1_pop_25 rfl (lv_at hl 1 rfl) ?_
      refine lv_aload_n hx hb dX1_pop_26 rfl (lv_at hl 0 rfl) ?_
      refine g1_0 hx hb hts hi1 hown hK hW (k := 225) rfl (hts _ (wm 2 rfl)) dX1_pop_27 ?_
      refine lv_aload_n hx hb dX1_pop_30 rfl (lv_at hl 0 rfl) ?_
      refine g1_1 hx hb hts hi1 hown hK hW (k := 225) rfl (hts _ (wm 1 rfl)) dX1_pop_31 ?_
      obtain ⟨hn34, hr⟩ := chk_e hr
      refine xaald hx hb hK hW (k := 226) (t := 52) rfl (by decide) (by decide) rfl (t0 := 5) rfl hn34 dX1_pop_34 ?_
      obtain ⟨M_2, hc35, hr⟩ := ob1_e hr
      refine xk_v (va_runV (As := [.ref (ad (rid 52 226 (ix (gI M_1 225 1))))]) (rest := []) ⟨hx, hb, hml, hown, hts⟩ (c_X8_copyFrom l D cA ad M_1 0 (rid 52 226 (ix (gI M_1 225 1))) (rfl : KS true 0 = 8) (ks_52 (k := 226) rfl hn34) hc35) (cwV 1 hts gX1_pop_X8_copyFrom rfl rfl rfl (by decide +kernel) ⟨Nat.le_of_ble_eq_true rfl, Nat.le_of_ble_eq_true rfl⟩) (xpreV hK hW (k := 0) rfl (by decide) rfl) rfl rfl hl.1 rfl (lv_room (Nat.le_of_ble_eq_true rfl)) dX1_pop_35 ⟨Nat.le_of_ble_eq_true rfl, Nat.le_of_ble_eq_true rfl⟩) hW (fun H locs hW => ?_)
      rw [← Option.some.inj hr]
      exact xvret hx hb hr0 hlocks hW adR_rf dX1_pop_38

set_option maxHeartbeats 4000000 in
set_option maxRecDepth 100000 in
theorem c_X10_wholePeriods (l : Launch) (D : va_G) (cA : Nat → ClassId) (ad : Nat → Nat) (M : Mm) (x0 : Int32) (x1 : Int32) {r : Int32} (hr : f_X10_wholePeriods x0 x1 M = some r) : Met l yX10_wholePeriods wsX10_wholePeriods ({ frames := 1, cells := 0, slots := 0, locals := 30 }) (PcX D true cA ad M [.int x0, .int x1]) (QiX false D true cA ad r M) 0 0 (AX true ad) := by
  refine Met.ofW (cc := cX10_wholePeriods) (maxL := 4) (ret := (some .int)) (by decide) rfl ?_
  intro p e s m args below meth c s₁ B hml hv
  obtain ⟨hav, hP0, hK⟩ := hv
  have hx := B.exec
  have hb := B.bytes
  have hr0 := B.returns
  have hts := atoms_spec (ws := wsX10_wholePeriods) B.pre
  have hown : s.vm.findClass RX10 = some m.cls := findClass_of_methodNamed B.named
  have hlocks := B.notSynchronized
  have hW := xstart hP0
  have hl := lv_entry ([.int x0, .int x1]) (n := 4) (Nat.le_of_ble_eq_true rfl)
  have hef := lg_entry_eq m ([.int x0, .int x1]) 4
  rw [← hav] at hef
  rw [hef]
  clear hef
  generalize (lg_sl ([.int x0, .int x1]) ++ List.replicate (4 - (lg_sl ([.int x0, .int x1])).length) Slot.unset).toArray = ls at hl ⊢
  have hl : lv_has ls 4 [(0, .int x0), (1, .int x1)] := hl
  clear hP0
  unfold f_X10_wholePeriods at hr
  refine lv_iload_n hx hb dX10_wholePeriods_0 rfl (lv_at hl 1 rfl) ?_
  refine lv_if_gt (tgt := 6) hx hb dX10_wholePeriods_1 (by decide) (fun c1 => ?_) (fun c1 => ?_)
  · have hr := br_p c1 hr
    refine lv_iload_n hx hb dX10_wholePeriods_6 rfl (lv_at hl 0 rfl) ?_
    refine va_mabs hx hb (hml.trans hl.1.symm) hown (hts _ (wm 1 rfl)) (hts _ (wm 2 rfl)) (hts _ (wm 3 rfl)) (hts _ (wm 4 rfl)) (Nat.le_of_ble_eq_true rfl) (Nat.le_of_ble_eq_true rfl) (Nat.zero_le _) (Nat.zero_le _) dX10_wholePeriods_7 (show W p l e _ s m _ below meth c _ _ _ _ _ (F0 m _ _ (Value.int (jabs x0) :: _)) from ?_)
    obtain ⟨x2_1, ex2_1, hr⟩ := lt1_e hr
    rw [← ex2_1]
    refine lv_istore_n (lv' := [(2, .int x2_1), (0, .int x0), (1, .int x1)]) hx hb dX10_wholePeriods_10 rfl hl (by decide) rfl (fun ls hl => ?_)
    refine lv_iload_n hx hb dX10_wholePeriods_11 rfl (lv_at hl 0 rfl) ?_
    refine lv_iload_n hx hb dX10_wholePeriods_12 rfl (lv_at hl 2 rfl) ?_
    obtain ⟨hc13, hr⟩ := chk_e hr
    refine lv_idiv hx hb dX10_wholePeriods_13 (of_decide_eq_true hc13) ?_
    obtain ⟨x3_2, ex3_2, hr⟩ := lt1_e hr
    rw [← ex3_2]
    refine lv_istore_n (lv' := [(3, .int x3_2), (2, .int x2_1), (0, .int x0), (1, .int x1)]) hx hb dX10_wholePeriods_14 rfl hl (by decide) rfl (fun ls hl => ?_)
    refine lv_iload_n hx hb dX10_wholePeriods_15 rfl (lv_at hl 1 rfl) ?_
    refine lv_iload_n hx hb dX10_wholePeriods_16 rfl (lv_at hl 3 rfl) ?_
    obtain ⟨hc17, hr⟩ := chk_e hr
    refine lv_irem hx hb dX10_wholePeriods_17 (of_decide_eq_true hc17) ?_
    refine lv_iconst (v := (2 : Int32)) hx hb dX10_wholePeriods_18 (by decide) ?_
    refine lv_imul hx hb dX10_wholePeriods_19 ?_
    refine lv_iload_n hx hb dX10_wholePeriods_20 rfl (lv_at hl 3 rfl) ?_
    obtain ⟨x3_3, hr, hr3⟩ := ob1_e hr
    have hj27_3 : ∀ (H : Heap) (locs : List Loc) (ls : Array Slot), Xw D true cA ad M (AX true ad) s.heap H locs → lv_has ls 4 [(0, .int x0), (3, .int x3_3)] → W p l e (headSpec wsX10_wholePeriods { frames := 1, cells := 0, slots := 0, locals := 30 }).room s m args below meth c H locs 0 0 (MQ below (QiX false D true cA ad r M) args s 0 0 (AX true ad)) (F0 m 27 ls []) := by
      intro H locs ls hW hl
      have hr := hr3
      refine lv_iload_n hx hb dX10_wholePeriods_27 rfl (lv_at hl 0 rfl) ?_
      refine lv_if_ge (tgt := 36) hx hb dX10_wholePeriods_28 (by decide) (fun c1 => ?_) (fun c1 => ?_)
      · have hr := br_p c1 hr
        refine lv_iload_n hx hb dX10_wholePeriods_36 rfl (lv_at hl 1 rfl) ?_
        rw [← Option.some.inj hr]
        exact xiret hx hb hr0 hlocks hW adR_rf dX10_wholePeriods_37
      · have hr := br_n c1 hr
        refine lv_iload_n hx hb dX10_wholePeriods_31 rfl (lv_at hl 1 rfl) ?_
        refine lv_ineg hx hb dX10_wholePeriods_32 ?_
        refine lv_goto (tgt := 37) hx hb dX10_wholePeriods_33 (by decide) ?_
        rw [← Option.some.inj hr]
        exact xiret hx hb hr0 hlocks hW adR_rf dX10_wholePeriods_37
    clear hr3
    refine lv_icmp_le (tgt := 27) hx hb dX10_wholePeriods_21 (by decide) (fun c1 => ?_) (fun c1 => ?_)
    · have hr := br_p c1 hr
      have e1 := Option.some.inj hr
      subst e1
      exact hj27_3 _ _ _ hW (lv_sub hl [2, 0] rfl)
    · have hr := br_n c1 hr
      obtain ⟨x3_4, ex3_4, hr⟩ := lt1_e hr
      refine lv_iinc (v := x3_4) (lv' := [(3, .int x3_4), (2, .int x2_1), (0, .int x0), (1, .int x1)]) hx hb dX10_wholePeriods_24 hl (k := 0) rfl (by rw [ex3_4]; rfl) (by decide) rfl (fun ls hl => ?_)
      have e1 := Option.some.inj hr
      subst e1
      exact hj27_3 _ _ _ hW (lv_sub hl [2, 0] rfl)
  · have hr := br_n c1 hr
    refine lv_iconst (v := (0 : Int32)) hx hb dX10_wholePeriods_4 (by decide) ?_
    rw [← Option.some.inj hr]
    exact xiret hx hb hr0 hlocks hW adR_rf dX10_wholePeriods_5

set_option maxHeartbeats 4000000 in
set_option maxRecDepth 100000 in
theorem c_X2_findShifts (l : Launch) (D : va_G) (cA : Nat → ClassId) (ad : Nat → Nat) (M : Mm) {M' : Mm} (hr : f_X2_findShifts M = some M') : Met l yX2_findShifts wsX2_findShifts ({ frames := 2, cells := 0, slots := 0, locals := 53 }) (PcX D true cA ad M [.ref (ad 232), .ref (ad 0)]) (QvX false D true cA ad M') 0 0 (AX true ad) := by
  refine Met.ofW (cc := cX2_findShifts) (maxL := 5) (ret := none) (by decide) rfl ?_
  intro p e s m args below meth c s₁ B hml hv
  obtain ⟨hav, hP0, hK⟩ := hv
  have hx := B.exec
  have hb := B.bytes
  have hr0 := B.returns
  have hts := atoms_spec (ws := wsX2_findShifts) B.pre
  have hown : s.vm.findClass RX2 = some m.cls := findClass_of_methodNamed B.named
  have hlocks := B.notSynchronized
  have hW := xstart hP0
  have hi2 : ∀ w ∈ wsX20, w ∈ wsX2_findShifts := fun w h => List.mem_cons_of_mem _ (List.mem_append_left _ (List.mem_append_right _ h))
  have hi3 : ∀ w ∈ wsX30, w ∈ wsX2_findShifts := fun w h => List.mem_cons_of_mem _ (List.mem_append_left _ (List.mem_append_left _ (List.mem_append_right _ h)))
  have hi7 : ∀ w ∈ wsX70, w ∈ wsX2_findShifts := fun w h => List.mem_cons_of_mem _ (List.mem_append_right _ h)
  have hi8 : ∀ w ∈ wsX80, w ∈ wsX2_findShifts := fun w h => List.mem_cons_of_mem _ (List.mem_append_left _ (List.mem_append_left _ (List.mem_append_left _ (List.mem_append_right _ h))))
  have hl := lv_entry ([.ref (ad 232), .ref (ad 0)]) (n := 5) (Nat.le_of_ble_eq_true rfl)
  have hef := lg_entry_eq m ([.ref (ad 232), .ref (ad 0)]) 5
  rw [← hav] at hef
  rw [hef]
  clear hef
  generalize (lg_sl ([.ref (ad 232), .ref (ad 0)]) ++ List.replicate (5 - (lg_sl ([.ref (ad 232), .ref (ad 0)])).length) Slot.unset).toArray = ls at hl ⊢
  have hl : lv_has ls 5 [(0, .ref (ad 232)), (1, .ref (ad 0))] := hl
  clear hP0
  unfold f_X2_findShifts at hr
  refine lv_iconst (v := (0 : Int32)) hx hb dX2_findShifts_0 (by decide) ?_
  refine lv_istore_n (lv' := [(2, .int (0 : Int32)), (0, .ref (ad 232)), (1, .ref (ad 0))]) hx hb dX2_findShifts_1 rfl hl (by decide) rfl (fun ls hl => ?_)
  have hL2_1 : ∀ (n : Nat) (x2_1 : Int32) (M_2 : Mm) (H : Heap) (locs : List Loc) (ls : Array Slot), Xw D true cA ad M_2 (AX true ad) s.heap H locs → lv_has ls 5 [(0, .ref (ad 232)), (1, .ref (ad 0)), (2, .int x2_1)] → f_X2_findShifts_L2 n x2_1 M_2 = some M' → W p l e (headSpec wsX2_findShifts { frames := 2, cells := 0, slots := 0, locals := 53 }).room s m args below meth c H locs 0 0 (MQ below (QvX false D true cA ad M') args s 0 0 (AX true ad)) (F0 m 2 ls []) := by
    intro n
    induction n with
    | zero =>
      intro x2_1 M_2 H locs ls hW hl hr
      exact absurd hr (by simp [f_X2_findShifts_L2])
    | succ n ih =>
      intro x2_1 M_2 H locs ls hW hl hr
      rw [f_X2_findShifts_L2] at hr
      refine lv_iload_n hx hb dX2_findShifts_2 rfl (lv_at hl 2 rfl) ?_
      refine lv_iconst (v := (4 : Int32)) hx hb dX2_findShifts_3 (by decide) ?_
      refine lv_icmp_ge (tgt := 138) hx hb dX2_findShifts_4 (by decide) (fun c1 => ?_) (fun c1 => ?_)
      · have hr := br_p c1 hr
        rw [← Option.some.inj hr]
        exact xvret hx hb hr0 hlocks hW adR_rf dX2_findShifts_138
      · have hr := br_n c1 hr
        refine lv_aload_n hx hb dX2_findShifts_7 rfl (lv_at hl 1 rfl) ?_
        refine g8_0 hx hb hts hi8 hown hK hW (k := 0) rfl (hts _ (wm 1 rfl)) dX2_findShifts_8 ?_
        refine lv_iload_n hx hb dX2_findShifts_11 rfl (lv_at hl 2 rfl) ?_
        obtain ⟨hn12, hr⟩ := chk_e hr
        refine xaald hx hb hK hW (k := 1) (t := 50) rfl (by decide) (by decide) rfl (t0 := 3) rfl hn12 dX2_findShifts_12 ?_
        refine lv_astore_n (lv' := [(3, .ref (ad (rid 50 1 (ix x2_1)))), (0, .ref (ad 232)), (1, .ref (ad 0)), (2, .int x2_1)]) hx hb dX2_findShifts_13 rfl hl (by decide) rfl (fun ls hl => ?_)
        refine lv_aload_n hx hb dX2_findShifts_14 rfl (lv_at hl 0 rfl) ?_
        refine g3_15 hx hb hts hi3 hown hK hW (k := (rid 50 1 (ix x2_1))) (ks_50 (k := 1) rfl hn12) (hts _ (wm 2 rfl)) dX2_findShifts_15 ?_
        refine lv_astore (lv' := [(4, .ref (ad ((rid 50 1 (ix x2_1)) + 1))), (3, .ref (ad (rid 50 1 (ix x2_1)))), (0, .ref (ad 232)), (1, .ref (ad 0)), (2, .int x2_1)]) hx hb dX2_findShifts_18 hl (by decide) rfl (fun ls hl => ?_)
        refine lv_aload_n hx hb dX2_findShifts_20 rfl (lv_at hl 2 rfl) ?_
        refine g2_0 hx hb hts hi2 hown hK hW (k := 232) rfl (hts _ (wm 3 rfl)) dX2_findShifts_21 ?_
        refine lv_iload_n hx hb dX2_findShifts_24 rfl (lv_at hl 4 rfl) ?_
        refine lv_aload hx hb dX2_findShifts_25 (lv_at hl 0 rfl) ?_
        refine g7_0 hx hb hts hi7 hown hK hW (k := ((rid 50 1 (ix x2_1)) + 1)) (ks_3s (ks_50 (k := 1) rfl hn12)) (hts _ (wm 4 rfl)) dX2_findShifts_27 ?_
        obtain ⟨y_3, hr, hr3⟩ := ob1_e hr
        have hj59_3 : ∀ (H : Heap) (locs : List Loc) (ls : Array Slot), Xw D true cA ad M_2 (AX true ad) s.heap H locs → lv_has ls 5 [(4, .ref (ad ((rid 50 1 (ix x2_1)) + 1))), (3, .ref (ad (rid 50 1 (ix x2_1)))), (0, .ref (ad 232)), (1, .ref (ad 0)), (2, .int x2_1)] → W p l e (headSpec wsX2_findShifts { frames := 2, cells := 0, slots := 0, locals := 53 }).room s m args below meth c H locs 0 0 (MQ below (QvX false D true cA ad M') args s 0 0 (AX true ad)) (F0 m 59 ls [.int y_3, .int x2_1, .ref (ad 233)]) := by
          intro H locs ls hW hl
          have hr := hr3
          obtain ⟨hn59, hr⟩ := chk_e hr
          obtain ⟨hz59, hr⟩ := chk_e hr
          obtain ⟨M_4, eM_4, hr⟩ := lt1_e hr
          refine xzast hx hb hK hW (k := 233) (t := 30) rfl (by decide) (by decide) rfl (n := 4) hn59 (jx := (ix x2_1)) rfl hz59 dX2_findShifts_59 (fun H locs hW => ?_)
          rw [← eM_4] at hW
          refine lv_aload_n hx hb dX2_findShifts_60 rfl (lv_at hl 2 rfl) ?_
          refine g2_1 hx hb hts hi2 hown hK hW (k := 232) rfl (hts _ (wm 8 rfl)) dX2_findShifts_61 ?_
          refine lv_iload_n hx hb dX2_findShifts_64 rfl (lv_at hl 4 rfl) ?_
          refine lv_aload_n hx hb dX2_findShifts_65 rfl (lv_at hl 2 rfl) ?_
          refine g2_0 hx hb hts hi2 hown hK hW (k := 232) rfl (hts _ (wm 3 rfl)) dX2_findShifts_66 ?_
          refine lv_iload_n hx hb dX2_findShifts_69 rfl (lv_at hl 4 rfl) ?_
          obtain ⟨hn70, hr⟩ := chk_e hr
          refine xzald hx hb hK hW (k := 233) (t := 30) rfl (by decide) (by decide) rfl (n := 4) hn70 (jx := (ix x2_1)) rfl dX2_findShifts_70 ?_
          obtain ⟨y_5, hr, hr3⟩ := ob1_e hr
          have hj95_5 : ∀ (H : Heap) (locs : List Loc) (ls : Array Slot), Xw D true cA ad M_4 (AX true ad) s.heap H locs → lv_has ls 5 [(4, .ref (ad ((rid 50 1 (ix x2_1)) + 1))), (3, .ref (ad (rid 50 1 (ix x2_1)))), (0, .ref (ad 232)), (1, .ref (ad 0)), (2, .int x2_1)] → W p l e (headSpec wsX2_findShifts { frames := 2, cells := 0, slots := 0, locals := 53 }).room s m args below meth c H locs 0 0 (MQ below (QvX false D true cA ad M') args s 0 0 (AX true ad)) (F0 m 95 ls [.int y_5, .int x2_1, .ref (ad 234)]) := by
            intro H locs ls hW hl
            have hr := hr3
            obtain ⟨hn95, hr⟩ := chk_e hr
            obtain ⟨M_7, eM_7, hr⟩ := lt1_e hr
            refine xiast hx hb hK hW (k := 234) (t := 20) rfl (by decide) (by decide) rfl (n := 4) hn95 (jx := (ix x2_1)) rfl dX2_findShifts_95 (fun H locs hW => ?_)
            rw [← eM_7] at hW
            refine lv_aload_n hx hb dX2_findShifts_96 rfl (lv_at hl 2 rfl) ?_
            refine g2_2 hx hb hts hi2 hown hK hW (k := 232) rfl (hts _ (wm 12 rfl)) dX2_findShifts_97 ?_
            refine lv_iload_n hx hb dX2_findShifts_100 rfl (lv_at hl 4 rfl) ?_
            refine lv_aload_n hx hb dX2_findShifts_101 rfl (lv_at hl 2 rfl) ?_
            refine g2_0 hx hb hts hi2 hown hK hW (k := 232) rfl (hts _ (wm 3 rfl)) dX2_findShifts_102 ?_
            refine lv_iload_n hx hb dX2_findShifts_105 rfl (lv_at hl 4 rfl) ?_
            obtain ⟨hn106, hr⟩ := chk_e hr
            refine xzald hx hb hK hW (k := 233) (t := 30) rfl (by decide) (by decide) rfl (n := 4) hn106 (jx := (ix x2_1)) rfl dX2_findShifts_106 ?_
            obtain ⟨y_8, hr, hr3⟩ := ob1_e hr
            have hj131_8 : ∀ (H : Heap) (locs : List Loc) (ls : Array Slot), Xw D true cA ad M_7 (AX true ad) s.heap H locs → lv_has ls 5 [(0, .ref (ad 232)), (1, .ref (ad 0)), (2, .int x2_1)] → W p l e (headSpec wsX2_findShifts { frames := 2, cells := 0, slots := 0, locals := 53 }).room s m args below meth c H locs 0 0 (MQ below (QvX false D true cA ad M') args s 0 0 (AX true ad)) (F0 m 131 ls [.int y_8, .int x2_1, .ref (ad 235)]) := by
              intro H locs ls hW hl
              have hr := hr3
              obtain ⟨hn131, hr⟩ := chk_e hr
              obtain ⟨M_10, eM_10, hr⟩ := lt1_e hr
              refine xiast hx hb hK hW (k := 235) (t := 20) rfl (by decide) (by decide) rfl (n := 4) hn131 (jx := (ix x2_1)) rfl dX2_findShifts_131 (fun H locs hW => ?_)
              rw [← eM_10] at hW
              obtain ⟨x2_11, ex2_11, hr⟩ := lt1_e hr
              refine lv_iinc (v := x2_11) (lv' := [(2, .int x2_11), (0, .ref (ad 232)), (1, .ref (ad 0))]) hx hb dX2_findShifts_132 hl (k := 2) rfl (by rw [ex2_11]; rfl) (by decide) rfl (fun ls hl => ?_)
              refine lv_goto (tgt := 2) hx hb dX2_findShifts_135 (by decide) ?_
              exact ih x2_11 M_10 _ _ _ hW (lv_sub hl [1, 2, 0] rfl) hr
            clear hr3
            refine lv_if_eq (tgt := 130) hx hb dX2_findShifts_107 (by decide) (fun c1 => ?_) (fun c1 => ?_)
            · have hr := br_p c1 hr
              refine lv_iconst (v := (0 : Int32)) hx hb dX2_findShifts_130 (by decide) ?_
              have e1 := Option.some.inj hr
              subst e1
              exact hj131_8 _ _ _ hW (lv_sub hl [2, 3, 4] rfl)
            · have hr := br_n c1 hr
              refine lv_aload hx hb dX2_findShifts_110 (lv_at hl 0 rfl) ?_
              refine g7_2 hx hb hts hi7 hown hK hW (k := ((rid 50 1 (ix x2_1)) + 1)) (ks_3s (ks_50 (k := 1) rfl hn12)) (hts _ (wm 13 rfl)) dX2_findShifts_112 ?_
              refine lv_aload_n hx hb dX2_findShifts_115 rfl (lv_at hl 1 rfl) ?_
              refine g3_7 hx hb hts hi3 hown hK hW (k := (rid 50 1 (ix x2_1))) (ks_50 (k := 1) rfl hn12) (hts _ (wm 14 rfl)) dX2_findShifts_116 ?_
              refine lv_isub hx hb dX2_findShifts_119 ?_
              refine lv_aload_n hx hb dX2_findShifts_120 rfl (lv_at hl 1 rfl) ?_
              refine g3_3 hx hb hts hi3 hown hK hW (k := (rid 50 1 (ix x2_1))) (ks_50 (k := 1) rfl hn12) (hts _ (wm 11 rfl)) dX2_findShifts_121 ?_
              obtain ⟨r_9, hc124, hr⟩ := ob1_e hr
              refine xk_i (va_runSN (As := [.int ((gI M_7 ((rid 50 1 (ix x2_1)) + 1) 2) - (gI M_7 (rid 50 1 (ix x2_1)) 7)), .int (gI M_7 (rid 50 1 (ix x2_1)) 3)]) (rest := [.int x2_1, .ref (ad 235)]) ⟨hx, hb, hml, hown, hts⟩ (c_X10_wholePeriods l D cA ad M_7 ((gI M_7 ((rid 50 1 (ix x2_1)) + 1) 2) - (gI M_7 (rid 50 1 (ix x2_1)) 7)) (gI M_7 (rid 50 1 (ix x2_1)) 3) hc124) ⟨va_cnB 2 hts gX2_findShifts_X10_wholePeriods_n81 rfl rfl rfl hK.2.2.2.2.2.2.2.2.2.2.2.1 (hts _ (wm 16 rfl)) (by decide +kernel) ⟨Nat.le_of_ble_eq_true rfl, Nat.le_of_ble_eq_true rfl⟩, (hts _ (wm 15 rfl)), trivial⟩ (xpreS hK hW) rfl rfl hl.1 rfl (lv_room (Nat.le_of_ble_eq_true rfl)) dX2_findShifts_124 ⟨Nat.le_of_ble_eq_true rfl, Nat.le_of_ble_eq_true rfl⟩) hW (fun H locs hW => ?_)
              refine lv_goto (tgt := 131) hx hb dX2_findShifts_127 (by decide) ?_
              have e1 := Option.some.inj hr
              subst e1
              exact hj131_8 _ _ _ hW (lv_sub hl [2, 3, 4] rfl)
          clear hr3
          refine lv_if_eq (tgt := 94) hx hb dX2_findShifts_71 (by decide) (fun c1 => ?_) (fun c1 => ?_)
          · have hr := br_p c1 hr
            refine lv_iconst (v := (0 : Int32)) hx hb dX2_findShifts_94 (by decide) ?_
            have e1 := Option.some.inj hr
            subst e1
            exact hj95_5 _ _ _ hW (lv_sub hl [0, 1, 2, 3, 4] rfl)
          · have hr := br_n c1 hr
            refine lv_aload hx hb dX2_findShifts_74 (lv_at hl 0 rfl) ?_
            refine g7_1 hx hb hts hi7 hown hK hW (k := ((rid 50 1 (ix x2_1)) + 1)) (ks_3s (ks_50 (k := 1) rfl hn12)) (hts _ (wm 9 rfl)) dX2_findShifts_76 ?_
            refine lv_aload_n hx hb dX2_findShifts_79 rfl (lv_at hl 1 rfl) ?_
            refine g3_6 hx hb hts hi3 hown hK hW (k := (rid 50 1 (ix x2_1))) (ks_50 (k := 1) rfl hn12) (hts _ (wm 10 rfl)) dX2_findShifts_80 ?_
            refine lv_isub hx hb dX2_findShifts_83 ?_
            refine lv_aload_n hx hb dX2_findShifts_84 rfl (lv_at hl 1 rfl) ?_
            refine g3_3 hx hb hts hi3 hown hK hW (k := (rid 50 1 (ix x2_1))) (ks_50 (k := 1) rfl hn12) (hts _ (wm 11 rfl)) dX2_findShifts_85 ?_
            obtain ⟨r_6, hc88, hr⟩ := ob1_e hr
            refine xk_i (va_runSN (As := [.int ((gI M_4 ((rid 50 1 (ix x2_1)) + 1) 1) - (gI M_4 (rid 50 1 (ix x2_1)) 6)), .int (gI M_4 (rid 50 1 (ix x2_1)) 3)]) (rest := [.int x2_1, .ref (ad 234)]) ⟨hx, hb, hml, hown, hts⟩ (c_X10_wholePeriods l D cA ad M_4 ((gI M_4 ((rid 50 1 (ix x2_1)) + 1) 1) - (gI M_4 (rid 50 1 (ix x2_1)) 6)) (gI M_4 (rid 50 1 (ix x2_1)) 3) hc88) ⟨va_cnB 2 hts gX2_findShifts_X10_wholePeriods_n81 rfl rfl rfl hK.2.2.2.2.2.2.2.2.2.2.2.1 (hts _ (wm 16 rfl)) (by decide +kernel) ⟨Nat.le_of_ble_eq_true rfl, Nat.le_of_ble_eq_true rfl⟩, (hts _ (wm 15 rfl)), trivial⟩ (xpreS hK hW) rfl rfl hl.1 rfl (lv_room (Nat.le_of_ble_eq_true rfl)) dX2_findShifts_88 ⟨Nat.le_of_ble_eq_true rfl, Nat.le_of_ble_eq_true rfl⟩) hW (fun H locs hW => ?_)
            refine lv_goto (tgt := 95) hx hb dX2_findShifts_91 (by decide) ?_
            have e1 := Option.some.inj hr
            subst e1
            exact hj95_5 _ _ _ hW (lv_sub hl [0, 1, 2, 3, 4] rfl)
        clear hr3
        refine lv_if_eq (tgt := 58) hx hb dX2_findShifts_30 (by decide) (fun c1 => ?_) (fun c1 => ?_)
        · have hr := br_p c1 hr
          refine lv_iconst (v := (0 : Int32)) hx hb dX2_findShifts_58 (by decide) ?_
          have e1 := Option.some.inj hr
          subst e1
          exact hj59_3 _ _ _ hW (lv_sub hl [0, 1, 2, 3, 4] rfl)
        · have hr := br_n c1 hr
          refine lv_aload hx hb dX2_findShifts_33 (lv_at hl 0 rfl) ?_
          refine g7_3 hx hb hts hi7 hown hK hW (k := ((rid 50 1 (ix x2_1)) + 1)) (ks_3s (ks_50 (k := 1) rfl hn12)) (hts _ (wm 5 rfl)) dX2_findShifts_35 ?_
          refine lv_aload_n hx hb dX2_findShifts_38 rfl (lv_at hl 3 rfl) ?_
          refine g8_3 hx hb hts hi8 hown hK hW (k := 0) rfl (hts _ (wm 6 rfl)) dX2_findShifts_39 ?_
          refine lv_iconst (v := (0 : Int32)) hx hb dX2_findShifts_42 (by decide) ?_
          refine xiald hx hb hK hW (k := 13) (t := 21) rfl (by decide) (by decide) rfl (n := 5) (by decide) (jx := 0) (by decide) dX2_findShifts_43 ?_
          refine lv_icmp_lt (tgt := 58) hx hb dX2_findShifts_44 (by decide) (fun c1 => ?_) (fun c1 => ?_)
          · have hr := br_p c1 hr
            refine lv_iconst (v := (0 : Int32)) hx hb dX2_findShifts_58 (by decide) ?_
            have e1 := Option.some.inj hr
            subst e1
            exact hj59_3 _ _ _ hW (lv_sub hl [0, 1, 2, 3, 4] rfl)
          · have hr := br_n c1 hr
            refine lv_aload_n hx hb dX2_findShifts_47 rfl (lv_at hl 1 rfl) ?_
            refine g3_5 hx hb hts hi3 hown hK hW (k := (rid 50 1 (ix x2_1))) (ks_50 (k := 1) rfl hn12) (hts _ (wm 7 rfl)) dX2_findShifts_48 ?_
            refine lv_if_eq (tgt := 58) hx hb dX2_findShifts_51 (by decide) (fun c1 => ?_) (fun c1 => ?_)
            · have hr := br_p c1 hr
              refine lv_iconst (v := (0 : Int32)) hx hb dX2_findShifts_58 (by decide) ?_
              have e1 := Option.some.inj hr
              subst e1
              exact hj59_3 _ _ _ hW (lv_sub hl [0, 1, 2, 3, 4] rfl)
            · have hr := br_n c1 hr
              refine lv_iconst (v := (1 : Int32)) hx hb dX2_findShifts_54 (by decide) ?_
              refine lv_goto (tgt := 59) hx hb dX2_findShifts_55 (by decide) ?_
              have e1 := Option.some.inj hr
              subst e1
              exact hj59_3 _ _ _ hW (lv_sub hl [0, 1, 2, 3, 4] rfl)
  exact hL2_1 1000 (0 : Int32) M _ _ _ hW (lv_sub hl [1, 2, 0] rfl) hr

set_option maxHeartbeats 4000000 in
set_option maxRecDepth 100000 in
theorem c_X2_votingWeight (l : Launch) (D : va_G) (cA : Nat → ClassId) (ad : Nat → Nat) (M : Mm) {r : Int32} (hr : f_X2_votingWeight M = some r) : Met l yX2_votingWeight wsX2_votingWeight ({ frames := 0, cells := 0, slots := 0, locals := 0 }) (PcX D true cA ad M [.ref (ad 232), .ref (ad 0)]) (QiX false D true cA ad r M) 0 0 (AX true ad) := by
  refine Met.ofW (cc := cX2_votingWeight) (maxL := 4) (ret := (some .int)) (by decide) rfl ?_
  intro p e s m args below meth c s₁ B hml hv
  obtain ⟨hav, hP0, hK⟩ := hv
  have hx := B.exec
  have hb := B.bytes
  have hr0 := B.returns
  have hts := atoms_spec (ws := wsX2_votingWeight) B.pre
  have hown : s.vm.findClass RX2 = some m.cls := findClass_of_methodNamed B.named
  have hlocks := B.notSynchronized
  have hW := xstart hP0
  have hi2 : ∀ w ∈ wsX20, w ∈ wsX2_votingWeight := fun w h => List.mem_cons_of_mem _ (List.mem_append_left _ (List.mem_append_left _ (List.mem_append_right _ h)))
  have hi3 : ∀ w ∈ wsX30, w ∈ wsX2_votingWeight := fun w h => List.mem_cons_of_mem _ (List.mem_append_right _ h)
  have hi8 : ∀ w ∈ wsX80, w ∈ wsX2_votingWeight := fun w h => List.mem_cons_of_mem _ (List.mem_append_left _ (List.mem_append_right _ h))
  have hl := lv_entry ([.ref (ad 232), .ref (ad 0)]) (n := 4) (Nat.le_of_ble_eq_true rfl)
  have hef := lg_entry_eq m ([.ref (ad 232), .ref (ad 0)]) 4
  rw [← hav] at hef
  rw [hef]
  clear hef
  generalize (lg_sl ([.ref (ad 232), .ref (ad 0)]) ++ List.replicate (4 - (lg_sl ([.ref (ad 232), .ref (ad 0)])).length) Slot.unset).toArray = ls at hl ⊢
  have hl : lv_has ls 4 [(0, .ref (ad 232)), (1, .ref (ad 0))] := hl
  clear hP0
  unfold f_X2_votingWeight at hr
  refine lv_iconst (v := (0 : Int32)) hx hb dX2_votingWeight_0 (by decide) ?_
  refine lv_istore_n (lv' := [(2, .int (0 : Int32)), (0, .ref (ad 232)), (1, .ref (ad 0))]) hx hb dX2_votingWeight_1 rfl hl (by decide) rfl (fun ls hl => ?_)
  refine lv_iconst (v := (0 : Int32)) hx hb dX2_votingWeight_2 (by decide) ?_
  refine lv_istore_n (lv' := [(3, .int (0 : Int32)), (2, .int (0 : Int32)), (0, .ref (ad 232)), (1, .ref (ad 0))]) hx hb dX2_votingWeight_3 rfl hl (by decide) rfl (fun ls hl => ?_)
  have hL4_1 : ∀ (n : Nat) (x2_1 : Int32) (x3_2 : Int32) (H : Heap) (locs : List Loc) (ls : Array Slot) (x2_3 : Int32), Xw D true cA ad M (AX true ad) s.heap H locs → lv_has ls 4 [(0, .ref (ad 232)), (1, .ref (ad 0)), (2, .int x2_1), (3, .int x3_2)] → f_X2_votingWeight_L4 M n x2_1 x3_2 = some x2_3 → (∀ (H : Heap) (locs : List Loc) (ls : Array Slot), Xw D true cA ad M (AX true ad) s.heap H locs → lv_has ls 4 [(2, .int x2_3)] → W p l e (headSpec wsX2_votingWeight { frames := 0, cells := 0, slots := 0, locals := 0 }).room s m args below meth c H locs 0 0 (MQ below (QiX false D true cA ad r M) args s 0 0 (AX true ad)) (F0 m 40 ls [])) → W p l e (headSpec wsX2_votingWeight { frames := 0, cells := 0, slots := 0, locals := 0 }).room s m args below meth c H locs 0 0 (MQ below (QiX false D true cA ad r M) args s 0 0 (AX true ad)) (F0 m 4 ls []) := by
    intro n
    induction n with
    | zero =>
      intro x2_1 x3_2 H locs ls x2_3 hW hl hr hk
      exact absurd hr (by simp [f_X2_votingWeight_L4])
    | succ n ih =>
      intro x2_1 x3_2 H locs ls x2_3 hW hl hr hk
      rw [f_X2_votingWeight_L4] at hr
      refine lv_iload_n hx hb dX2_votingWeight_4 rfl (lv_at hl 3 rfl) ?_
      refine lv_iconst (v := (4 : Int32)) hx hb dX2_votingWeight_5 (by decide) ?_
      refine lv_icmp_ge (tgt := 40) hx hb dX2_votingWeight_6 (by decide) (fun c1 => ?_) (fun c1 => ?_)
      · have hr := br_p c1 hr
        have e1 := Option.some.inj hr
        subst e1
        exact hk _ _ _ hW (lv_sub hl [2] rfl)
      · have hr := br_n c1 hr
        refine lv_iload_n hx hb dX2_votingWeight_9 rfl (lv_at hl 2 rfl) ?_
        refine lv_aload_n hx hb dX2_votingWeight_10 rfl (lv_at hl 0 rfl) ?_
        refine g2_0 hx hb hts hi2 hown hK hW (k := 232) rfl (hts _ (wm 1 rfl)) dX2_votingWeight_11 ?_
        refine lv_iload_n hx hb dX2_votingWeight_14 rfl (lv_at hl 3 rfl) ?_
        obtain ⟨hn15, hr⟩ := chk_e hr
        refine xzald hx hb hK hW (k := 233) (t := 30) rfl (by decide) (by decide) rfl (n := 4) hn15 (jx := (ix x3_2)) rfl dX2_votingWeight_15 ?_
        obtain ⟨y_4, hr, hr3⟩ := ob1_e hr
        have hj32_4 : ∀ (H : Heap) (locs : List Loc) (ls : Array Slot), Xw D true cA ad M (AX true ad) s.heap H locs → lv_has ls 4 [(0, .ref (ad 232)), (1, .ref (ad 0)), (3, .int x3_2)] → W p l e (headSpec wsX2_votingWeight { frames := 0, cells := 0, slots := 0, locals := 0 }).room s m args below meth c H locs 0 0 (MQ below (QiX false D true cA ad r M) args s 0 0 (AX true ad)) (F0 m 32 ls [.int y_4, .int x2_1]) := by
          intro H locs ls hW hl
          have hr := hr3
          refine lv_iadd hx hb dX2_votingWeight_32 ?_
          obtain ⟨x2_5, ex2_5, hr⟩ := lt1_e hr
          rw [← ex2_5]
          refine lv_istore_n (lv' := [(2, .int x2_5), (0, .ref (ad 232)), (1, .ref (ad 0)), (3, .int x3_2)]) hx hb dX2_votingWeight_33 rfl hl (by decide) rfl (fun ls hl => ?_)
          obtain ⟨x3_6, ex3_6, hr⟩ := lt1_e hr
          refine lv_iinc (v := x3_6) (lv' := [(3, .int x3_6), (2, .int x2_5), (0, .ref (ad 232)), (1, .ref (ad 0))]) hx hb dX2_votingWeight_34 hl (k := 3) rfl (by rw [ex3_6]; rfl) (by decide) rfl (fun ls hl => ?_)
          refine lv_goto (tgt := 4) hx hb dX2_votingWeight_37 (by decide) ?_
          exact ih x2_5 x3_6 _ _ _ _ hW (lv_sub hl [2, 3, 1, 0] rfl) hr hk
        clear hr3
        refine lv_if_eq (tgt := 31) hx hb dX2_votingWeight_16 (by decide) (fun c1 => ?_) (fun c1 => ?_)
        · have hr := br_p c1 hr
          refine lv_iconst (v := (0 : Int32)) hx hb dX2_votingWeight_31 (by decide) ?_
          have e1 := Option.some.inj hr
          subst e1
          exact hj32_4 _ _ _ hW (lv_sub hl [0, 1, 3] rfl)
        · have hr := br_n c1 hr
          refine lv_aload_n hx hb dX2_votingWeight_19 rfl (lv_at hl 1 rfl) ?_
          refine g8_0 hx hb hts hi8 hown hK hW (k := 0) rfl (hts _ (wm 2 rfl)) dX2_votingWeight_20 ?_
          refine lv_iload_n hx hb dX2_votingWeight_23 rfl (lv_at hl 3 rfl) ?_
          obtain ⟨hn24, hr⟩ := chk_e hr
          refine xaald hx hb hK hW (k := 1) (t := 50) rfl (by decide) (by decide) rfl (t0 := 3) rfl hn24 dX2_votingWeight_24 ?_
          refine g3_2 hx hb hts hi3 hown hK hW (k := (rid 50 1 (ix x3_2))) (ks_50 (k := 1) rfl hn24) (hts _ (wm 3 rfl)) dX2_votingWeight_25 ?_
          refine lv_goto (tgt := 32) hx hb dX2_votingWeight_28 (by decide) ?_
          have e1 := Option.some.inj hr
          subst e1
          exact hj32_4 _ _ _ hW (lv_sub hl [0, 1, 3] rfl)
  obtain ⟨x2_3, hr, hr3⟩ := ob1_e hr
  refine hL4_1 1000 (0 : Int32) (0 : Int32) _ _ _ x2_3 hW (lv_sub hl [2, 3, 1, 0] rfl) hr (fun H locs ls hW hl => ?_)
  clear hr
  have hr := hr3
  refine lv_iload_n hx hb dX2_votingWeight_40 rfl (lv_at hl 0 rfl) ?_
  rw [← Option.some.inj hr]
  exact xiret hx hb hr0 hlocks hW adR_rf dX2_votingWeight_41

set_option maxHeartbeats 4000000 in
set_option maxRecDepth 100000 in
theorem c_X2_weightOf (l : Launch) (D : va_G) (cA : Nat → ClassId) (ad : Nat → Nat) (M : Mm) (a1 : Nat) (x2 : Int32) {r : Int32} (ha1 : KS true a1 = 20) (hr : f_X2_weightOf a1 x2 M = some r) : Met l yX2_weightOf wsX2_weightOf ({ frames := 0, cells := 0, slots := 0, locals := 0 }) (PcX D true cA ad M [.ref (ad 0), .ref (ad a1), .int x2]) (QiX false D true cA ad r M) 0 0 (AX true ad) := by
  refine Met.ofW (cc := cX2_weightOf) (maxL := 5) (ret := (some .int)) (by decide) rfl ?_
  intro p e s m args below meth c s₁ B hml hv
  obtain ⟨hav, hP0, hK⟩ := hv
  have hx := B.exec
  have hb := B.bytes
  have hr0 := B.returns
  have hts := atoms_spec (ws := wsX2_weightOf) B.pre
  have hown : s.vm.findClass RX2 = some m.cls := findClass_of_methodNamed B.named
  have hlocks := B.notSynchronized
  have hW := xstart hP0
  have hi3 : ∀ w ∈ wsX30, w ∈ wsX2_weightOf := fun w h => List.mem_cons_of_mem _ (List.mem_append_right _ h)
  have hi8 : ∀ w ∈ wsX80, w ∈ wsX2_weightOf := fun w h => List.mem_cons_of_mem _ (List.mem_append_left _ (List.mem_append_right _ h))
  have hl := lv_entry ([.ref (ad 0), .ref (ad a1), .int x2]) (n := 5) (Nat.le_of_ble_eq_true rfl)
  have hef := lg_entry_eq m ([.ref (ad 0), .ref (ad a1), .int x2]) 5
  rw [← hav] at hef
  rw [hef]
  clear hef
  generalize (lg_sl ([.ref (ad 0), .ref (ad a1), .int x2]) ++ List.replicate (5 - (lg_sl ([.ref (ad 0), .ref (ad a1), .int x2])).length) Slot.unset).toArray = ls at hl ⊢
  have hl : lv_has ls 5 [(0, .ref (ad 0)), (1, .ref (ad a1)), (2, .int x2)] := hl
  clear hP0
  unfold f_X2_weightOf at hr
  refine lv_iconst (v := (0 : Int32)) hx hb dX2_weightOf_0 (by decide) ?_
  refine lv_istore_n (lv' := [(3, .int (0 : Int32)), (0, .ref (ad 0)), (1, .ref (ad a1)), (2, .int x2)]) hx hb dX2_weightOf_1 rfl hl (by decide) rfl (fun ls hl => ?_)
  refine lv_iconst (v := (0 : Int32)) hx hb dX2_weightOf_2 (by decide) ?_
  refine lv_istore (lv' := [(4, .int (0 : Int32)), (3, .int (0 : Int32)), (0, .ref (ad 0)), (1, .ref (ad a1)), (2, .int x2)]) hx hb dX2_weightOf_3 hl (by decide) rfl (fun ls hl => ?_)
  have hL5_1 : ∀ (n : Nat) (x3_1 : Int32) (x4_2 : Int32) (H : Heap) (locs : List Loc) (ls : Array Slot) (x3_3 : Int32), Xw D true cA ad M (AX true ad) s.heap H locs → lv_has ls 5 [(0, .ref (ad 0)), (1, .ref (ad a1)), (2, .int x2), (3, .int x3_1), (4, .int x4_2)] → f_X2_weightOf_L5 M a1 x2 n x3_1 x4_2 = some x3_3 → (∀ (H : Heap) (locs : List Loc) (ls : Array Slot), Xw D true cA ad M (AX true ad) s.heap H locs → lv_has ls 5 [(3, .int x3_3)] → W p l e (headSpec wsX2_weightOf { frames := 0, cells := 0, slots := 0, locals := 0 }).room s m args below meth c H locs 0 0 (MQ below (QiX false D true cA ad r M) args s 0 0 (AX true ad)) (F0 m 49 ls [])) → W p l e (headSpec wsX2_weightOf { frames := 0, cells := 0, slots := 0, locals := 0 }).room s m args below meth c H locs 0 0 (MQ below (QiX false D true cA ad r M) args s 0 0 (AX true ad)) (F0 m 5 ls []) := by
    intro n
    induction n with
    | zero =>
      intro x3_1 x4_2 H locs ls x3_3 hW hl hr hk
      exact absurd hr (by simp [f_X2_weightOf_L5])
    | succ n ih =>
      intro x3_1 x4_2 H locs ls x3_3 hW hl hr hk
      rw [f_X2_weightOf_L5] at hr
      refine lv_iload hx hb dX2_weightOf_5 (lv_at hl 4 rfl) ?_
      refine lv_iconst (v := (4 : Int32)) hx hb dX2_weightOf_7 (by decide) ?_
      refine lv_icmp_ge (tgt := 49) hx hb dX2_weightOf_8 (by decide) (fun c1 => ?_) (fun c1 => ?_)
      · have hr := br_p c1 hr
        have e1 := Option.some.inj hr
        subst e1
        exact hk _ _ _ hW (lv_sub hl [3] rfl)
      · have hr := br_n c1 hr
        refine lv_iload hx hb dX2_weightOf_11 (lv_at hl 4 rfl) ?_
        refine lv_aload_n hx hb dX2_weightOf_13 rfl (lv_at hl 1 rfl) ?_
        refine xalen hx hb hK hW (k := a1) (t := 20) ha1 (by decide) (by decide) (v := (4 : Int32)) rfl dX2_weightOf_14 ?_
        refine lv_icmp_ge (tgt := 49) hx hb dX2_weightOf_15 (by decide) (fun c1 => ?_) (fun c1 => ?_)
        · have hr := br_p c1 hr
          have e1 := Option.some.inj hr
          subst e1
          exact hk _ _ _ hW (lv_sub hl [3] rfl)
        · have hr := br_n c1 hr
          refine lv_iload_n hx hb dX2_weightOf_18 rfl (lv_at hl 3 rfl) ?_
          refine lv_aload_n hx hb dX2_weightOf_19 rfl (lv_at hl 1 rfl) ?_
          refine lv_iload hx hb dX2_weightOf_20 (lv_at hl 4 rfl) ?_
          obtain ⟨hn22, hr⟩ := chk_e hr
          refine xiald hx hb hK hW (k := a1) (t := 20) ha1 (by decide) (by decide) rfl (n := 4) hn22 (jx := (ix x4_2)) rfl dX2_weightOf_22 ?_
          refine lv_iload_n hx hb dX2_weightOf_23 rfl (lv_at hl 2 rfl) ?_
          obtain ⟨y_4, hr, hr3⟩ := ob1_e hr
          have hj41_4 : ∀ (H : Heap) (locs : List Loc) (ls : Array Slot), Xw D true cA ad M (AX true ad) s.heap H locs → lv_has ls 5 [(0, .ref (ad 0)), (1, .ref (ad a1)), (2, .int x2), (4, .int x4_2)] → W p l e (headSpec wsX2_weightOf { frames := 0, cells := 0, slots := 0, locals := 0 }).room s m args below meth c H locs 0 0 (MQ below (QiX false D true cA ad r M) args s 0 0 (AX true ad)) (F0 m 41 ls [.int y_4, .int x3_1]) := by
            intro H locs ls hW hl
            have hr := hr3
            refine lv_iadd hx hb dX2_weightOf_41 ?_
            obtain ⟨x3_5, ex3_5, hr⟩ := lt1_e hr
            rw [← ex3_5]
            refine lv_istore_n (lv' := [(3, .int x3_5), (0, .ref (ad 0)), (1, .ref (ad a1)), (2, .int x2), (4, .int x4_2)]) hx hb dX2_weightOf_42 rfl hl (by decide) rfl (fun ls hl => ?_)
            obtain ⟨x4_6, ex4_6, hr⟩ := lt1_e hr
            refine lv_iinc (v := x4_6) (lv' := [(4, .int x4_6), (3, .int x3_5), (0, .ref (ad 0)), (1, .ref (ad a1)), (2, .int x2)]) hx hb dX2_weightOf_43 hl (k := 4) rfl (by rw [ex4_6]; rfl) (by decide) rfl (fun ls hl => ?_)
            refine lv_goto (tgt := 5) hx hb dX2_weightOf_46 (by decide) ?_
            exact ih x3_5 x4_6 _ _ _ _ hW (lv_sub hl [2, 3, 4, 1, 0] rfl) hr hk
          clear hr3
          refine lv_icmp_ne (tgt := 40) hx hb dX2_weightOf_24 (by decide) (fun c1 => ?_) (fun c1 => ?_)
          · have hr := br_n c1 hr
            refine lv_iconst (v := (0 : Int32)) hx hb dX2_weightOf_40 (by decide) ?_
            have e1 := Option.some.inj hr
            subst e1
            exact hj41_4 _ _ _ hW (lv_sub hl [0, 1, 2, 4] rfl)
          · have hr := br_p c1 hr
            refine lv_aload_n hx hb dX2_weightOf_27 rfl (lv_at hl 0 rfl) ?_
            refine g8_0 hx hb hts hi8 hown hK hW (k := 0) rfl (hts _ (wm 1 rfl)) dX2_weightOf_28 ?_
            refine lv_iload hx hb dX2_weightOf_31 (lv_at hl 4 rfl) ?_
            obtain ⟨hn33, hr⟩ := chk_e hr
            refine xaald hx hb hK hW (k := 1) (t := 50) rfl (by decide) (by decide) rfl (t0 := 3) rfl hn33 dX2_weightOf_33 ?_
            refine g3_2 hx hb hts hi3 hown hK hW (k := (rid 50 1 (ix x4_2))) (ks_50 (k := 1) rfl hn33) (hts _ (wm 2 rfl)) dX2_weightOf_34 ?_
            refine lv_goto (tgt := 41) hx hb dX2_weightOf_37 (by decide) ?_
            have e1 := Option.some.inj hr
            subst e1
            exact hj41_4 _ _ _ hW (lv_sub hl [0, 1, 2, 4] rfl)
  obtain ⟨x3_3, hr, hr3⟩ := ob1_e hr
  refine hL5_1 1000 (0 : Int32) (0 : Int32) _ _ _ x3_3 hW (lv_sub hl [2, 3, 4, 1, 0] rfl) hr (fun H locs ls hW hl => ?_)
  clear hr
  have hr := hr3
  refine lv_iload_n hx hb dX2_weightOf_49 rfl (lv_at hl 0 rfl) ?_
  rw [← Option.some.inj hr]
  exact xiret hx hb hr0 hlocks hW adR_rf dX2_weightOf_50

set_option maxHeartbeats 4000000 in
set_option maxRecDepth 100000 in
theorem c_X2_clearShift (l : Launch) (D : va_G) (cA : Nat → ClassId) (ad : Nat → Nat) (M : Mm) (a0 : Nat) (x1 : Int32) {M' : Mm} (ha0 : KS true a0 = 20) (hr : f_X2_clearShift a0 x1 M = some M') : Met l yX2_clearShift wsX2_clearShift ({ frames := 0, cells := 0, slots := 0, locals := 0 }) (PcX D true cA ad M [.ref (ad a0), .int x1]) (QvX false D true cA ad M') 0 0 (AX true ad) := by
  refine Met.ofW (cc := cX2_clearShift) (maxL := 3) (ret := none) (by decide) rfl ?_
  intro p e s m args below meth c s₁ B hml hv
  obtain ⟨hav, hP0, hK⟩ := hv
  have hx := B.exec
  have hb := B.bytes
  have hr0 := B.returns
  have hts := atoms_spec (ws := wsX2_clearShift) B.pre
  have hown : s.vm.findClass RX2 = some m.cls := findClass_of_methodNamed B.named
  have hlocks := B.notSynchronized
  have hW := xstart hP0
  have hl := lv_entry ([.ref (ad a0), .int x1]) (n := 3) (Nat.le_of_ble_eq_true rfl)
  have hef := lg_entry_eq m ([.ref (ad a0), .int x1]) 3
  rw [← hav] at hef
  rw [hef]
  clear hef
  generalize (lg_sl ([.ref (ad a0), .int x1]) ++ List.replicate (3 - (lg_sl ([.ref (ad a0), .int x1])).length) Slot.unset).toArray = ls at hl ⊢
  have hl : lv_has ls 3 [(0, .ref (ad a0)), (1, .int x1)] := hl
  clear hP0
  unfold f_X2_clearShift at hr
  refine lv_iconst (v := (0 : Int32)) hx hb dX2_clearShift_0 (by decide) ?_
  refine lv_istore_n (lv' := [(2, .int (0 : Int32)), (0, .ref (ad a0)), (1, .int x1)]) hx hb dX2_clearShift_1 rfl hl (by decide) rfl (fun ls hl => ?_)
  have hL2_1 : ∀ (n : Nat) (x2_1 : Int32) (M_2 : Mm) (H : Heap) (locs : List Loc) (ls : Array Slot), Xw D true cA ad M_2 (AX true ad) s.heap H locs → lv_has ls 3 [(0, .ref (ad a0)), (1, .int x1), (2, .int x2_1)] → f_X2_clearShift_L2 a0 x1 n x2_1 M_2 = some M' → W p l e (headSpec wsX2_clearShift { frames := 0, cells := 0, slots := 0, locals := 0 }).room s m args below meth c H locs 0 0 (MQ below (QvX false D true cA ad M') args s 0 0 (AX true ad)) (F0 m 2 ls []) := by
    intro n
    induction n with
    | zero =>
      intro x2_1 M_2 H locs ls hW hl hr
      exact absurd hr (by simp [f_X2_clearShift_L2])
    | succ n ih =>
      intro x2_1 M_2 H locs ls hW hl hr
      rw [f_X2_clearShift_L2] at hr
      refine lv_iload_n hx hb dX2_clearShift_2 rfl (lv_at hl 2 rfl) ?_
      refine lv_aload_n hx hb dX2_clearShift_3 rfl (lv_at hl 0 rfl) ?_
      refine xalen hx hb hK hW (k := a0) (t := 20) ha0 (by decide) (by decide) (v := (4 : Int32)) rfl dX2_clearShift_4 ?_
      refine lv_icmp_ge (tgt := 25) hx hb dX2_clearShift_5 (by decide) (fun c1 => ?_) (fun c1 => ?_)
      · have hr := br_p c1 hr
        rw [← Option.some.inj hr]
        exact xvret hx hb hr0 hlocks hW adR_rf dX2_clearShift_25
      · have hr := br_n c1 hr
        refine lv_aload_n hx hb dX2_clearShift_8 rfl (lv_at hl 0 rfl) ?_
        refine lv_iload_n hx hb dX2_clearShift_9 rfl (lv_at hl 2 rfl) ?_
        obtain ⟨hn10, hr⟩ := chk_e hr
        refine xiald hx hb hK hW (k := a0) (t := 20) ha0 (by decide) (by decide) rfl (n := 4) hn10 (jx := (ix x2_1)) rfl dX2_clearShift_10 ?_
        refine lv_iload_n hx hb dX2_clearShift_11 rfl (lv_at hl 1 rfl) ?_
        obtain ⟨M_3, hr, hr3⟩ := ob1_e hr
        have hj19_3 : ∀ (H : Heap) (locs : List Loc) (ls : Array Slot), Xw D true cA ad M_3 (AX true ad) s.heap H locs → lv_has ls 3 [(0, .ref (ad a0)), (1, .int x1), (2, .int x2_1)] → W p l e (headSpec wsX2_clearShift { frames := 0, cells := 0, slots := 0, locals := 0 }).room s m args below meth c H locs 0 0 (MQ below (QvX false D true cA ad M') args s 0 0 (AX true ad)) (F0 m 19 ls []) := by
          intro H locs ls hW hl
          have hr := hr3
          obtain ⟨x2_5, ex2_5, hr⟩ := lt1_e hr
          refine lv_iinc (v := x2_5) (lv' := [(2, .int x2_5), (0, .ref (ad a0)), (1, .int x1)]) hx hb dX2_clearShift_19 hl (k := 2) rfl (by rw [ex2_5]; rfl) (by decide) rfl (fun ls hl => ?_)
          refine lv_goto (tgt := 2) hx hb dX2_clearShift_22 (by decide) ?_
          exact ih x2_5 M_3 _ _ _ hW (lv_sub hl [1, 2, 0] rfl) hr
        clear hr3
        refine lv_icmp_ne (tgt := 19) hx hb dX2_clearShift_12 (by decide) (fun c1 => ?_) (fun c1 => ?_)
        · have hr := br_n c1 hr
          have e1 := Option.some.inj hr
          subst e1
          exact hj19_3 _ _ _ hW (lv_sub hl [0, 1, 2] rfl)
        · have hr := br_p c1 hr
          refine lv_aload_n hx hb dX2_clearShift_15 rfl (lv_at hl 0 rfl) ?_
          refine lv_iload_n hx hb dX2_clearShift_16 rfl (lv_at hl 2 rfl) ?_
          refine lv_iconst (v := (0 : Int32)) hx hb dX2_clearShift_17 (by decide) ?_
          obtain ⟨hn18, hr⟩ := chk_e hr
          obtain ⟨M_4, eM_4, hr⟩ := lt1_e hr
          refine xiast hx hb hK hW (k := a0) (t := 20) ha0 (by decide) (by decide) rfl (n := 4) hn18 (jx := (ix x2_1)) rfl dX2_clearShift_18 (fun H locs hW => ?_)
          rw [← eM_4] at hW
          have e1 := Option.some.inj hr
          subst e1
          exact hj19_3 _ _ _ hW (lv_sub hl [0, 1, 2] rfl)
  exact hL2_1 1000 (0 : Int32) M _ _ _ hW (lv_sub hl [1, 2, 0] rfl) hr

set_option maxHeartbeats 4000000 in
set_option maxRecDepth 100000 in
theorem c_X2_clearTrueShifts (l : Launch) (D : va_G) (cA : Nat → ClassId) (ad : Nat → Nat) (M : Mm) (a2 : Nat) {r : Int32} {M' : Mm} (ha2 : KS true a2 = 20) (hr : f_X2_clearTrueShifts a2 M = some (r, M')) : Met l yX2_clearTrueShifts wsX2_clearTrueShifts ({ frames := 1, cells := 0, slots := 0, locals := 24 }) (PcX D true cA ad M [.ref (ad 232), .ref (ad 0), .ref (ad a2)]) (QiX false D true cA ad r M') 0 0 (AX true ad) := by
  refine Met.ofW (cc := cX2_clearTrueShifts) (maxL := 7) (ret := (some .int)) (by decide) rfl ?_
  intro p e s m args below meth c s₁ B hml hv
  obtain ⟨hav, hP0, hK⟩ := hv
  have hx := B.exec
  have hb := B.bytes
  have hr0 := B.returns
  have hts := atoms_spec (ws := wsX2_clearTrueShifts) B.pre
  have hown : s.vm.findClass RX2 = some m.cls := findClass_of_methodNamed B.named
  have hlocks := B.notSynchronized
  have hW := xstart hP0
  have hi8 : ∀ w ∈ wsX80, w ∈ wsX2_clearTrueShifts := fun w h => List.mem_cons_of_mem _ (List.mem_append_left _ (List.mem_append_left _ (List.mem_append_right _ h)))
  have hl := lv_entry ([.ref (ad 232), .ref (ad 0), .ref (ad a2)]) (n := 7) (Nat.le_of_ble_eq_true rfl)
  have hef := lg_entry_eq m ([.ref (ad 232), .ref (ad 0), .ref (ad a2)]) 7
  rw [← hav] at hef
  rw [hef]
  clear hef
  generalize (lg_sl ([.ref (ad 232), .ref (ad 0), .ref (ad a2)]) ++ List.replicate (7 - (lg_sl ([.ref (ad 232), .ref (ad 0), .ref (ad a2)])).length) Slot.unset).toArray = ls at hl ⊢
  have hl : lv_has ls 7 [(0, .ref (ad 232)), (1, .ref (ad 0)), (2, .ref (ad a2))] := hl
  clear hP0
  unfold f_X2_clearTrueShifts at hr
  refine lv_aload_n hx hb dX2_clearTrueShifts_0 rfl (lv_at hl 0 rfl) ?_
  refine lv_aload_n hx hb dX2_clearTrueShifts_1 rfl (lv_at hl 1 rfl) ?_
  obtain ⟨r_1, hc2, hr⟩ := ob1_e hr
  refine xk_i (va_runV (As := [.ref (ad 0)]) (rest := []) ⟨hx, hb, hml, hown, hts⟩ (c_X2_votingWeight l D cA ad M hc2) (cwV 1 hts gX2_clearTrueShifts_X2_votingWeight rfl rfl rfl (by decide +kernel) ⟨Nat.le_of_ble_eq_true rfl, Nat.le_of_ble_eq_true rfl⟩) (xpreV hK hW (k := 232) rfl (by decide) rfl) rfl rfl hl.1 rfl (lv_room (Nat.le_of_ble_eq_true rfl)) dX2_clearTrueShifts_2 ⟨Nat.le_of_ble_eq_true rfl, Nat.le_of_ble_eq_true rfl⟩) hW (fun H locs hW => ?_)
  refine lv_istore_n (lv' := [(3, .int r_1), (0, .ref (ad 232)), (1, .ref (ad 0)), (2, .ref (ad a2))]) hx hb dX2_clearTrueShifts_5 rfl hl (by decide) rfl (fun ls hl => ?_)
  refine lv_iconst (v := (0 : Int32)) hx hb dX2_clearTrueShifts_6 (by decide) ?_
  refine lv_istore (lv' := [(4, .int (0 : Int32)), (3, .int r_1), (0, .ref (ad 232)), (1, .ref (ad 0)), (2, .ref (ad a2))]) hx hb dX2_clearTrueShifts_7 hl (by decide) rfl (fun ls hl => ?_)
  refine lv_iconst (v := (0 : Int32)) hx hb dX2_clearTrueShifts_9 (by decide) ?_
  refine lv_istore (lv' := [(5, .int (0 : Int32)), (4, .int (0 : Int32)), (3, .int r_1), (0, .ref (ad 232)), (1, .ref (ad 0)), (2, .ref (ad a2))]) hx hb dX2_clearTrueShifts_10 hl (by decide) rfl (fun ls hl => ?_)
  have hL12_1 : ∀ (n : Nat) (x4_2 : Int32) (x5_3 : Int32) (M_4 : Mm) (H : Heap) (locs : List Loc) (ls : Array Slot) (x4_5 : Int32) (M_6 : Mm), Xw D true cA ad M_4 (AX true ad) s.heap H locs → lv_has ls 7 [(3, .int r_1), (1, .ref (ad 0)), (2, .ref (ad a2)), (4, .int x4_2), (5, .int x5_3)] → f_X2_clearTrueShifts_L12 a2 r_1 n x4_2 x5_3 M_4 = some (x4_5, M_6) → (∀ (H : Heap) (locs : List Loc) (ls : Array Slot), Xw D true cA ad M_6 (AX true ad) s.heap H locs → lv_has ls 7 [(4, .int x4_5)] → W p l e (headSpec wsX2_clearTrueShifts { frames := 1, cells := 0, slots := 0, locals := 24 }).room s m args below meth c H locs 0 0 (MQ below (QiX false D true cA ad r M') args s 0 0 (AX true ad)) (F0 m 72 ls [])) → W p l e (headSpec wsX2_clearTrueShifts { frames := 1, cells := 0, slots := 0, locals := 24 }).room s m args below meth c H locs 0 0 (MQ below (QiX false D true cA ad r M') args s 0 0 (AX true ad)) (F0 m 12 ls []) := by
    intro n
    induction n with
    | zero =>
      intro x4_2 x5_3 M_4 H locs ls x4_5 M_6 hW hl hr hk
      exact absurd hr (by simp [f_X2_clearTrueShifts_L12])
    | succ n ih =>
      intro x4_2 x5_3 M_4 H locs ls x4_5 M_6 hW hl hr hk
      rw [f_X2_clearTrueShifts_L12] at hr
      refine lv_iload hx hb dX2_clearTrueShifts_12 (lv_at hl 4 rfl) ?_
      refine lv_iconst (v := (4 : Int32)) hx hb dX2_clearTrueShifts_14 (by decide) ?_
      refine lv_icmp_ge (tgt := 72) hx hb dX2_clearTrueShifts_15 (by decide) (fun c1 => ?_) (fun c1 => ?_)
      · have hr := br_p c1 hr
        obtain ⟨e1, e2⟩ := Prod.mk.inj (Option.some.inj hr)
        subst e1
        subst e2
        exact hk _ _ _ hW (lv_sub hl [3] rfl)
      · have hr := br_n c1 hr
        refine lv_iload hx hb dX2_clearTrueShifts_18 (lv_at hl 4 rfl) ?_
        refine lv_aload_n hx hb dX2_clearTrueShifts_20 rfl (lv_at hl 2 rfl) ?_
        refine xalen hx hb hK hW (k := a2) (t := 20) ha2 (by decide) (by decide) (v := (4 : Int32)) rfl dX2_clearTrueShifts_21 ?_
        refine lv_icmp_ge (tgt := 72) hx hb dX2_clearTrueShifts_22 (by decide) (fun c1 => ?_) (fun c1 => ?_)
        · have hr := br_p c1 hr
          obtain ⟨e1, e2⟩ := Prod.mk.inj (Option.some.inj hr)
          subst e1
          subst e2
          exact hk _ _ _ hW (lv_sub hl [3] rfl)
        · have hr := br_n c1 hr
          refine lv_aload_n hx hb dX2_clearTrueShifts_25 rfl (lv_at hl 2 rfl) ?_
          refine lv_iload hx hb dX2_clearTrueShifts_26 (lv_at hl 4 rfl) ?_
          obtain ⟨hn28, hr⟩ := chk_e hr
          refine xiald hx hb hK hW (k := a2) (t := 20) ha2 (by decide) (by decide) rfl (n := 4) hn28 (jx := (ix x5_3)) rfl dX2_clearTrueShifts_28 ?_
          obtain ⟨x6_7, ex6_7, hr⟩ := lt1_e hr
          rw [← ex6_7]
          refine lv_istore (lv' := [(6, .int x6_7), (3, .int r_1), (1, .ref (ad 0)), (2, .ref (ad a2)), (4, .int x4_2), (5, .int x5_3)]) hx hb dX2_clearTrueShifts_29 hl (by decide) rfl (fun ls hl => ?_)
          refine lv_iload hx hb dX2_clearTrueShifts_31 (lv_at hl 0 rfl) ?_
          obtain ⟨x4_8, M_9, hr, hr3⟩ := ob2_e hr
          have hj66_9 : ∀ (H : Heap) (locs : List Loc) (ls : Array Slot), Xw D true cA ad M_9 (AX true ad) s.heap H locs → lv_has ls 7 [(3, .int r_1), (1, .ref (ad 0)), (2, .ref (ad a2)), (5, .int x5_3), (4, .int x4_8)] → W p l e (headSpec wsX2_clearTrueShifts { frames := 1, cells := 0, slots := 0, locals := 24 }).room s m args below meth c H locs 0 0 (MQ below (QiX false D true cA ad r M') args s 0 0 (AX true ad)) (F0 m 66 ls []) := by
            intro H locs ls hW hl
            have hr := hr3
            obtain ⟨x5_13, ex5_13, hr⟩ := lt1_e hr
            refine lv_iinc (v := x5_13) (lv' := [(5, .int x5_13), (3, .int r_1), (1, .ref (ad 0)), (2, .ref (ad a2)), (4, .int x4_8)]) hx hb dX2_clearTrueShifts_66 hl (k := 3) rfl (by rw [ex5_13]; rfl) (by decide) rfl (fun ls hl => ?_)
            refine lv_goto (tgt := 12) hx hb dX2_clearTrueShifts_69 (by decide) ?_
            exact ih x4_8 x5_13 M_9 _ _ _ _ _ hW (lv_sub hl [1, 2, 3, 4, 0] rfl) hr hk
          clear hr3
          refine lv_if_eq (tgt := 66) hx hb dX2_clearTrueShifts_33 (by decide) (fun c1 => ?_) (fun c1 => ?_)
          · have hr := br_p c1 hr
            obtain ⟨e1, e2⟩ := Prod.mk.inj (Option.some.inj hr)
            subst e1
            subst e2
            exact hj66_9 _ _ _ hW (lv_sub hl [1, 2, 3, 5, 4] rfl)
          · have hr := br_n c1 hr
            refine lv_aload_n hx hb dX2_clearTrueShifts_36 rfl (lv_at hl 2 rfl) ?_
            refine lv_aload_n hx hb dX2_clearTrueShifts_37 rfl (lv_at hl 3 rfl) ?_
            refine lv_iload hx hb dX2_clearTrueShifts_38 (lv_at hl 0 rfl) ?_
            obtain ⟨r_10, hc40, hr⟩ := ob1_e hr
            refine xk_i (va_runS (As := [.ref (ad 0), .ref (ad a2), .int x6_7]) (rest := []) ⟨hx, hb, hml, hown, hts⟩ (c_X2_weightOf l D cA ad M_4 a2 x6_7 ha2 hc40) (va_cwS 3 hts gX2_clearTrueShifts_X2_weightOf rfl rfl rfl (by decide +kernel) ⟨Nat.le_of_ble_eq_true rfl, Nat.le_of_ble_eq_true rfl⟩) (xpreS hK hW) rfl rfl hl.1 rfl (lv_room (Nat.le_of_ble_eq_true rfl)) dX2_clearTrueShifts_40 ⟨Nat.le_of_ble_eq_true rfl, Nat.le_of_ble_eq_true rfl⟩) hW (fun H locs hW => ?_)
            refine lv_bipush (v := (100 : Int32)) hx hb dX2_clearTrueShifts_43 (by decide) ?_
            refine lv_imul hx hb dX2_clearTrueShifts_45 ?_
            refine lv_aload_n hx hb dX2_clearTrueShifts_46 rfl (lv_at hl 2 rfl) ?_
            refine g8_3 hx hb hts hi8 hown hK hW (k := 0) rfl (hts _ (wm 1 rfl)) dX2_clearTrueShifts_47 ?_
            refine lv_iconst (v := (2 : Int32)) hx hb dX2_clearTrueShifts_50 (by decide) ?_
            refine xiald hx hb hK hW (k := 13) (t := 21) rfl (by decide) (by decide) rfl (n := 5) (by decide) (jx := 2) (by decide) dX2_clearTrueShifts_51 ?_
            refine lv_iload_n hx hb dX2_clearTrueShifts_52 rfl (lv_at hl 1 rfl) ?_
            refine lv_imul hx hb dX2_clearTrueShifts_53 ?_
            refine lv_icmp_lt (tgt := 66) hx hb dX2_clearTrueShifts_54 (by decide) (fun c1 => ?_) (fun c1 => ?_)
            · have hr := br_p c1 hr
              obtain ⟨e1, e2⟩ := Prod.mk.inj (Option.some.inj hr)
              subst e1
              subst e2
              exact hj66_9 _ _ _ hW (lv_sub hl [1, 2, 3, 5, 4] rfl)
            · have hr := br_n c1 hr
              refine lv_aload_n hx hb dX2_clearTrueShifts_57 rfl (lv_at hl 3 rfl) ?_
              refine lv_iload hx hb dX2_clearTrueShifts_58 (lv_at hl 0 rfl) ?_
              obtain ⟨M_11, hc60, hr⟩ := ob1_e hr
              refine xk_v (va_runS (As := [.ref (ad a2), .int x6_7]) (rest := []) ⟨hx, hb, hml, hown, hts⟩ (c_X2_clearShift l D cA ad M_4 a2 x6_7 ha2 hc60) (va_cwS 2 hts gX2_clearTrueShifts_X2_clearShift rfl rfl rfl (by decide +kernel) ⟨Nat.le_of_ble_eq_true rfl, Nat.le_of_ble_eq_true rfl⟩) (xpreS hK hW) rfl rfl hl.1 rfl (lv_room (Nat.le_of_ble_eq_true rfl)) dX2_clearTrueShifts_60 ⟨Nat.le_of_ble_eq_true rfl, Nat.le_of_ble_eq_true rfl⟩) hW (fun H locs hW => ?_)
              obtain ⟨x4_12, ex4_12, hr⟩ := lt1_e hr
              refine lv_iinc (v := x4_12) (lv' := [(4, .int x4_12), (6, .int x6_7), (3, .int r_1), (1, .ref (ad 0)), (2, .ref (ad a2)), (5, .int x5_3)]) hx hb dX2_clearTrueShifts_63 hl (k := 4) rfl (by rw [ex4_12]; rfl) (by decide) rfl (fun ls hl => ?_)
              obtain ⟨e1, e2⟩ := Prod.mk.inj (Option.some.inj hr)
              subst e1
              subst e2
              exact hj66_9 _ _ _ hW (lv_sub hl [2, 3, 4, 5, 0] rfl)
  obtain ⟨x4_5, M_6, hr, hr3⟩ := ob2_e hr
  refine hL12_1 1000 (0 : Int32) (0 : Int32) M _ _ _ x4_5 M_6 hW (lv_sub hl [2, 4, 5, 1, 0] rfl) hr (fun H locs ls hW hl => ?_)
  clear hr
  have hr := hr3
  refine lv_iload hx hb dX2_clearTrueShifts_72 (lv_at hl 0 rfl) ?_
  obtain ⟨e1, e2⟩ := Prod.mk.inj (Option.some.inj hr)
  rw [← e1, ← e2]
  exact xiret hx hb hr0 hlocks hW adR_rf dX2_clearTrueShifts_74

set_option maxHeartbeats 4000000 in
set_option maxRecDepth 100000 in
theorem c_X3_isLateEnough (l : Launch) (D : va_G) (cA : Nat → ClassId) (ad : Nat → Nat) (M : Mm) (a0 : Nat) (x1 : Int32) {r : Int32} (ha0 : KS true a0 = 3) (hr : f_X3_isLateEnough a0 x1 M = some r) : Met l yX3_isLateEnough wsX3_isLateEnough ({ frames := 0, cells := 0, slots := 0, locals := 0 }) (PcX D true cA ad M [.ref (ad a0), .int x1]) (QiX false D true cA ad r M) 0 0 (AX true ad) := by
  refine Met.ofW (cc := cX3_isLateEnough) (maxL := 2) (ret := (some .boolean)) (by decide) rfl ?_
  intro p e s m args below meth c s₁ B hml hv
  obtain ⟨hav, hP0, hK⟩ := hv
  have hx := B.exec
  have hb := B.bytes
  have hr0 := B.returns
  have hts := atoms_spec (ws := wsX3_isLateEnough) B.pre
  have hown : s.vm.findClass RX3 = some m.cls := findClass_of_methodNamed B.named
  have hlocks := B.notSynchronized
  have hW := xstart hP0
  have hi3 : ∀ w ∈ wsX30, w ∈ wsX3_isLateEnough := fun w h => List.mem_cons_of_mem _ (List.mem_append_right _ h)
  have hl := lv_entry ([.ref (ad a0), .int x1]) (n := 2) (Nat.le_of_ble_eq_true rfl)
  have hef := lg_entry_eq m ([.ref (ad a0), .int x1]) 2
  rw [← hav] at hef
  rw [hef]
  clear hef
  generalize (lg_sl ([.ref (ad a0), .int x1]) ++ List.replicate (2 - (lg_sl ([.ref (ad a0), .int x1])).length) Slot.unset).toArray = ls at hl ⊢
  have hl : lv_has ls 2 [(0, .ref (ad a0)), (1, .int x1)] := hl
  clear hP0
  unfold f_X3_isLateEnough at hr
  refine lv_iload_n hx hb dX3_isLateEnough_0 rfl (lv_at hl 1 rfl) ?_
  refine lv_aload_n hx hb dX3_isLateEnough_1 rfl (lv_at hl 0 rfl) ?_
  refine g3_4 hx hb hts hi3 hown hK hW (k := a0) ha0 (hts _ (wm 1 rfl)) dX3_isLateEnough_2 ?_
  refine lv_isub hx hb dX3_isLateEnough_5 ?_
  refine lv_sipush (v := (1000 : Int32)) hx hb dX3_isLateEnough_6 (by decide) ?_
  refine lv_icmp_lt (tgt := 16) hx hb dX3_isLateEnough_9 (by decide) (fun c1 => ?_) (fun c1 => ?_)
  · have hr := br_p c1 hr
    refine lv_iconst (v := (0 : Int32)) hx hb dX3_isLateEnough_16 (by decide) ?_
    rw [← Option.some.inj hr]
    exact xzret hx hb hr0 hlocks hW adR_rf (by decide) dX3_isLateEnough_17
  · have hr := br_n c1 hr
    refine lv_iconst (v := (1 : Int32)) hx hb dX3_isLateEnough_12 (by decide) ?_
    refine lv_goto (tgt := 17) hx hb dX3_isLateEnough_13 (by decide) ?_
    rw [← Option.some.inj hr]
    exact xzret hx hb hr0 hlocks hW adR_rf (by decide) dX3_isLateEnough_17

set_option maxHeartbeats 4000000 in
set_option maxRecDepth 100000 in
theorem c_X10_quotient (l : Launch) (D : va_G) (cA : Nat → ClassId) (ad : Nat → Nat) (M : Mm) (x0 : Int64) (x2 : Int64) {r : Int64} (hr : f_X10_quotient x0 x2 M = some r) : Met l yX10_quotient wsX10_quotient ({ frames := 0, cells := 0, slots := 0, locals := 0 }) (PcX D true cA ad M [.long x0, .long x2]) (QlX false D true cA ad r M) 0 0 (AX true ad) := by
  refine Met.ofW (cc := cX10_quotient) (maxL := 4) (ret := (some .long)) (by decide) rfl ?_
  intro p e s m args below meth c s₁ B hml hv
  obtain ⟨hav, hP0, hK⟩ := hv
  have hx := B.exec
  have hb := B.bytes
  have hr0 := B.returns
  have hts := atoms_spec (ws := wsX10_quotient) B.pre
  have hown : s.vm.findClass RX10 = some m.cls := findClass_of_methodNamed B.named
  have hlocks := B.notSynchronized
  have hW := xstart hP0
  have hl := lv_entry ([.long x0, .long x2]) (n := 4) (Nat.le_of_ble_eq_true rfl)
  have hef := lg_entry_eq m ([.long x0, .long x2]) 4
  rw [← hav] at hef
  rw [hef]
  clear hef
  generalize (lg_sl ([.long x0, .long x2]) ++ List.replicate (4 - (lg_sl ([.long x0, .long x2])).length) Slot.unset).toArray = ls at hl ⊢
  have hl : lv_has ls 4 [(0, .long x0), (2, .long x2)] := hl
  clear hP0
  unfold f_X10_quotient at hr
  refine lv_lload_n hx hb dX10_quotient_0 rfl (lv_at hl 1 rfl) ?_
  refine lv_lconst (v := (0 : Int64)) hx hb dX10_quotient_1 (by decide) ?_
  refine xlc_ne (tgt := 10) hx hb dX10_quotient_2 dX10_quotient_3 (by decide) (fun c1 => ?_) (fun c1 => ?_)
  · have hr := br_n c1 hr
    refine lv_lload_n hx hb dX10_quotient_10 rfl (lv_at hl 0 rfl) ?_
    refine lv_lload_n hx hb dX10_quotient_11 rfl (lv_at hl 1 rfl) ?_
    obtain ⟨hc12, hr⟩ := chk_e hr
    refine lv_ldiv hx hb dX10_quotient_12 (of_decide_eq_true hc12) ?_
    rw [← Option.some.inj hr]
    exact xlret hx hb hr0 hlocks hW adR_rf dX10_quotient_13
  · have hr := br_p c1 hr
    refine lv_lconst (v := (0 : Int64)) hx hb dX10_quotient_6 (by decide) ?_
    refine lv_goto (tgt := 13) hx hb dX10_quotient_7 (by decide) ?_
    rw [← Option.some.inj hr]
    exact xlret hx hb hr0 hlocks hW adR_rf dX10_quotient_13

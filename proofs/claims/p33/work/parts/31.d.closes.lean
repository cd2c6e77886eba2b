/-! THE LAW: closes, by gen_lawm.py -/
set_option maxHeartbeats 8000000 in
set_option maxRecDepth 100000 in
theorem c_L_closes (l : Launch) (D : va_G) (cA : Nat → ClassId) (ad : Nat → Nat) (M : Mm) (sz : Nat) {r : Int32} {M' : Mm} (hr : f_L_closes M = some (r, M')) : Met l yL_closes wsL_closes ({ frames := 6, cells := 2, slots := 12, locals := 144 }) (PcZ D cA ad M sz [.ref (ad 224)]) (QiZ D cA ad sz r M') 2 12 (AZ ad sz) := by
  refine Met.ofW (cc := cL_closes) (maxL := 19) (ret := (some .boolean)) (by decide) rfl ?_
  intro p e s m args below meth c s₁ B hml hv
  obtain ⟨hav, hP0, hK, hsz⟩ := hv
  have hx := B.exec
  have hb := B.bytes
  have hr0 := B.returns
  have hts := atoms_spec (ws := wsL_closes) B.pre
  have hown : s.vm.findClass RL = some m.cls := findClass_of_methodNamed B.named
  have hlocks := B.notSynchronized
  subst hsz
  have hW := zstart hP0
  have hA : ∀ q : Nat, s.heap.size ≤ q → AZ ad s.heap.size q := fun q h => Or.inr h
  have hl := lv_entry ([.ref (ad 224)]) (n := 19) (Nat.le_of_ble_eq_true rfl)
  have hef := lg_entry_eq m ([.ref (ad 224)]) 19
  rw [← hav] at hef
  rw [hef]
  clear hef
  generalize (lg_sl ([.ref (ad 224)]) ++ List.replicate (19 - (lg_sl ([.ref (ad 224)])).length) Slot.unset).toArray = ls at hl ⊢
  have hl : lv_has ls 19 [(0, .ref (ad 224))] := hl
  clear hP0
  unfold f_L_closes at hr
  refine lv_aload_n hx hb dL_closes_0 rfl (lv_at hl 0 rfl) ?_
  refine lv_iconst (v := (0 : Int32)) hx hb dL_closes_1 (by decide) ?_
  obtain ⟨r_1, hc2, hr⟩ := ob1_e hr
  refine xk_i (va_runV (As := [.int (0 : Int32)]) (rest := []) ⟨hx, hb, hml, hown, hts⟩ (c_X10_total l D cA ad M (0 : Int32) hc2) (cwV 1 hts gL_closes_X10_total rfl rfl rfl (by decide +kernel) ⟨Nat.le_of_ble_eq_true rfl, Nat.le_of_ble_eq_true rfl⟩) (xpreV hK hW (k := 224) rfl (by decide) rfl) rfl rfl hl.1 rfl (lv_room (Nat.le_of_ble_eq_true rfl)) dL_closes_2 ⟨Nat.le_of_ble_eq_true rfl, Nat.le_of_ble_eq_true rfl⟩) hW (fun H locs hW => ?_)
  refine lv_istore_n (lv' := [(1, .int r_1), (0, .ref (ad 224))]) hx hb dL_closes_5 rfl hl (by decide) rfl (fun ls hl => ?_)
  refine lv_aload_n hx hb dL_closes_6 rfl (lv_at hl 1 rfl) ?_
  obtain ⟨r_3, M_2, hc7, hr⟩ := ob2_e hr
  refine xk_i (va_runV (As := []) (rest := []) ⟨hx, hb, hml, hown, hts⟩ (c_X10_wouldBe l D cA ad M hc7) (cwV 0 hts gL_closes_X10_wouldBe rfl rfl rfl (by decide +kernel) ⟨Nat.le_of_ble_eq_true rfl, Nat.le_of_ble_eq_true rfl⟩) (xpreV hK hW (k := 224) rfl (by decide) rfl) rfl rfl hl.1 rfl (lv_room (Nat.le_of_ble_eq_true rfl)) dL_closes_7 ⟨Nat.le_of_ble_eq_true rfl, Nat.le_of_ble_eq_true rfl⟩) hW (fun H locs hW => ?_)
  refine lv_istore_n (lv' := [(2, .int r_3), (1, .int r_1), (0, .ref (ad 224))]) hx hb dL_closes_10 rfl hl (by decide) rfl (fun ls hl => ?_)
  refine lv_iconst (v := (4 : Int32)) hx hb dL_closes_11 (by decide) ?_
  have hI : ic_W D (XW true cA ad M_2) (AZ ad s.heap.size) s.heap _ _ := hW
  refine ic_newa (a0 := (4, .inl (fun _ => 0))) hx hb (hts _ (wm 1 rfl)) rfl hK 0 rfl hI hA (fun _ => rfl) (by decide) rfl (by decide) (Nat.le_of_ble_eq_true rfl) (Nat.le_of_ble_eq_true rfl) dL_closes_12 (fun q3 H hI => ?_)
  refine lv_astore_n (lv' := [(3, .ref q3), (2, .int r_3), (1, .int r_1), (0, .ref (ad 224))]) hx hb dL_closes_14 rfl hl (by decide) rfl (fun ls hl => ?_)
  refine lv_bipush (v := (8 : Int32)) hx hb dL_closes_15 (by decide) ?_
  refine ic_newa (a0 := (8, .inl (fun _ => 0))) hx hb (hts _ (wm 1 rfl)) rfl hK 0 rfl hI hA (fun _ => rfl) (by decide) rfl (by decide) (Nat.le_of_ble_eq_true rfl) (Nat.le_of_ble_eq_true rfl) dL_closes_17 (fun q4 H hI => ?_)
  refine lv_astore (lv' := [(4, .ref q4), (3, .ref q3), (2, .int r_3), (1, .int r_1), (0, .ref (ad 224))]) hx hb dL_closes_19 hl (by decide) rfl (fun ls hl => ?_)
  obtain ⟨ad2, e3, e4, hW⟩ := lx_two hI
  rw [← e3, ← e4] at hl
  refine lv_aload_n hx hb dL_closes_21 rfl (lv_at hl 4 rfl) ?_
  refine lv_iconst (v := (3 : Int32)) hx hb dL_closes_22 (by decide) ?_
  obtain ⟨r_4, hc23, hr⟩ := ob1_e hr
  refine lx_ki (va_runV (As := [.int (3 : Int32)]) (rest := []) ⟨hx, hb, hml, hown, hts⟩ (c_X10_total l D cA ad M_2 (3 : Int32) hc23) (cwV 1 hts gL_closes_X10_total rfl rfl rfl (by decide +kernel) ⟨Nat.le_of_ble_eq_true rfl, Nat.le_of_ble_eq_true rfl⟩) (xpreV hK hW.1 (k := 224) rfl (by decide) rfl) rfl rfl hl.1 rfl (lv_room (Nat.le_of_ble_eq_true rfl)) dL_closes_23 ⟨Nat.le_of_ble_eq_true rfl, Nat.le_of_ble_eq_true rfl⟩) hW (fun H locs hW => ?_)
  refine lv_istore (lv' := [(5, .int r_4), (4, .ref (ad2 1)), (3, .ref (ad2 0)), (2, .int r_3), (1, .int r_1), (0, .ref (ad 224))]) hx hb dL_closes_26 hl (by decide) rfl (fun ls hl => ?_)
  refine lv_aload_n hx hb dL_closes_28 rfl (lv_at hl 5 rfl) ?_
  refine lv_iconst (v := (0 : Int32)) hx hb dL_closes_29 (by decide) ?_
  obtain ⟨r_5, hc30, hr⟩ := ob1_e hr
  refine lx_kl (va_runV (As := [.int (0 : Int32)]) (rest := []) ⟨hx, hb, hml, hown, hts⟩ (c_X10_volume l D cA ad M_2 (0 : Int32) hc30) (cwV 1 hts gL_closes_X10_volume rfl rfl rfl (by decide +kernel) ⟨Nat.le_of_ble_eq_true rfl, Nat.le_of_ble_eq_true rfl⟩) (xpreV hK hW.1 (k := 224) rfl (by decide) rfl) rfl rfl hl.1 rfl (lv_room (Nat.le_of_ble_eq_true rfl)) dL_closes_30 ⟨Nat.le_of_ble_eq_true rfl, Nat.le_of_ble_eq_true rfl⟩) hW (fun H locs hW => ?_)
  refine lv_lstore (lv' := [(6, .long r_5), (5, .int r_4), (4, .ref (ad2 1)), (3, .ref (ad2 0)), (2, .int r_3), (1, .int r_1), (0, .ref (ad 224))]) hx hb dL_closes_33 hl (by decide) rfl (fun ls hl => ?_)
  refine lv_aload_n hx hb dL_closes_35 rfl (lv_at hl 6 rfl) ?_
  refine lv_iconst (v := (1 : Int32)) hx hb dL_closes_36 (by decide) ?_
  obtain ⟨r_6, hc37, hr⟩ := ob1_e hr
  refine lx_kl (va_runV (As := [.int (1 : Int32)]) (rest := []) ⟨hx, hb, hml, hown, hts⟩ (c_X10_volume l D cA ad M_2 (1 : Int32) hc37) (cwV 1 hts gL_closes_X10_volume rfl rfl rfl (by decide +kernel) ⟨Nat.le_of_ble_eq_true rfl, Nat.le_of_ble_eq_true rfl⟩) (xpreV hK hW.1 (k := 224) rfl (by decide) rfl) rfl rfl hl.1 rfl (lv_room (Nat.le_of_ble_eq_true rfl)) dL_closes_37 ⟨Nat.le_of_ble_eq_true rfl, Nat.le_of_ble_eq_true rfl⟩) hW (fun H locs hW => ?_)
  refine lv_lstore (lv' := [(8, .long r_6), (6, .long r_5), (5, .int r_4), (4, .ref (ad2 1)), (3, .ref (ad2 0)), (2, .int r_3), (1, .int r_1), (0, .ref (ad 224))]) hx hb dL_closes_40 hl (by decide) rfl (fun ls hl => ?_)
  refine lv_iconst (v := (0 : Int32)) hx hb dL_closes_42 (by decide) ?_
  refine lv_istore (lv' := [(10, .int (0 : Int32)), (8, .long r_6), (6, .long r_5), (5, .int r_4), (4, .ref (ad2 1)), (3, .ref (ad2 0)), (2, .int r_3), (1, .int r_1), (0, .ref (ad 224))]) hx hb dL_closes_43 hl (by decide) rfl (fun ls hl => ?_)
  have hL45_9 : ∀ (n : Nat) (x10_7 : Int32) (M_8 : Mm) (N_9 : Mm) (H : Heap) (locs : List Loc) (ls : Array Slot) (M_10 : Mm) (N_11 : Mm), lx_W D cA ad ad2 M_8 N_9 (AZ ad s.heap.size) s.heap H locs → lv_has ls 19 [(8, .long r_6), (6, .long r_5), (5, .int r_4), (4, .ref (ad2 1)), (3, .ref (ad2 0)), (2, .int r_3), (1, .int r_1), (0, .ref (ad 224)), (10, .int x10_7)] → f_L_closes_L45 r_1 n x10_7 M_8 N_9 = some (M_10, N_11) → (∀ (H : Heap) (locs : List Loc) (ls : Array Slot), lx_W D cA ad ad2 M_10 N_11 (AZ ad s.heap.size) s.heap H locs → lv_has ls 19 [(8, .long r_6), (6, .long r_5), (5, .int r_4), (4, .ref (ad2 1)), (3, .ref (ad2 0)), (2, .int r_3), (1, .int r_1), (0, .ref (ad 224))] → W p l e (headSpec wsL_closes { frames := 6, cells := 2, slots := 12, locals := 144 }).room s m args below meth c H locs 2 12 (MQ below (QiZ D cA ad s.heap.size r M') args s 2 12 (AZ ad s.heap.size)) (F0 m 98 ls [])) → W p l e (headSpec wsL_closes { frames := 6, cells := 2, slots := 12, locals := 144 }).room s m args below meth c H locs 2 12 (MQ below (QiZ D cA ad s.heap.size r M') args s 2 12 (AZ ad s.heap.size)) (F0 m 45 ls []) := by
    intro n
    induction n with
    | zero =>
      intro x10_7 M_8 N_9 H locs ls M_10 N_11 hW hl hr hk
      exact absurd hr (by simp [f_L_closes_L45])
    | succ n ih =>
      intro x10_7 M_8 N_9 H locs ls M_10 N_11 hW hl hr hk
      rw [f_L_closes_L45] at hr
      refine lv_iload hx hb dL_closes_45 (lv_at hl 8 rfl) ?_
      refine lv_iload_n hx hb dL_closes_47 rfl (lv_at hl 6 rfl) ?_
      refine lv_icmp_ge (tgt := 98) hx hb dL_closes_48 (by decide) (fun c1 => ?_) (fun c1 => ?_)
      · have hr := br_p c1 hr
        obtain ⟨e1, e2⟩ := Prod.mk.inj (Option.some.inj hr)
        subst e1
        subst e2
        exact hk _ _ _ hW (lv_sub hl [0, 1, 2, 3, 4, 5, 6, 7] rfl)
      · have hr := br_n c1 hr
        refine lv_aload_n hx hb dL_closes_51 rfl (lv_at hl 4 rfl) ?_
        refine lv_iload hx hb dL_closes_52 (lv_at hl 8 rfl) ?_
        refine lv_aload_n hx hb dL_closes_54 rfl (lv_at hl 7 rfl) ?_
        refine lv_iload hx hb dL_closes_55 (lv_at hl 8 rfl) ?_
        obtain ⟨r_13, M_12, hc57, hr⟩ := ob2_e hr
        refine lx_ki (va_runV (As := [.int x10_7]) (rest := [.int x10_7, .ref (ad2 0)]) ⟨hx, hb, hml, hown, hts⟩ (c_X10_wouldBecome l D cA ad M_8 x10_7 hc57) (cwV 1 hts gL_closes_X10_wouldBecome rfl rfl rfl (by decide +kernel) ⟨Nat.le_of_ble_eq_true rfl, Nat.le_of_ble_eq_true rfl⟩) (xpreV hK hW.1 (k := 224) rfl (by decide) rfl) rfl rfl hl.1 rfl (lv_room (Nat.le_of_ble_eq_true rfl)) dL_closes_57 ⟨Nat.le_of_ble_eq_true rfl, Nat.le_of_ble_eq_true rfl⟩) hW (fun H locs hW => ?_)
        obtain ⟨hn60, hr⟩ := chk_e hr
        obtain ⟨N_14, eN_14, hr⟩ := lt1_e hr
        refine lx_iast hx hb hK hW (k := 0) (t := 20) rfl (by decide) (by decide) rfl (n := 4) hn60 (jx := (ix x10_7)) rfl dL_closes_60 (fun H locs hW => ?_)
        rw [← eN_14] at hW
        refine lv_aload hx hb dL_closes_61 (lv_at hl 3 rfl) ?_
        refine lv_iconst (v := (2 : Int32)) hx hb dL_closes_63 (by decide) ?_
        refine lv_iload hx hb dL_closes_64 (lv_at hl 8 rfl) ?_
        refine lv_imul hx hb dL_closes_66 ?_
        refine lv_aload_n hx hb dL_closes_67 rfl (lv_at hl 7 rfl) ?_
        refine lv_iload hx hb dL_closes_68 (lv_at hl 8 rfl) ?_
        refine lv_iconst (v := (5 : Int32)) hx hb dL_closes_70 (by decide) ?_
        obtain ⟨r_15, hc71, hr⟩ := ob1_e hr
        refine lx_ki (va_runV (As := [.int x10_7, .int (5 : Int32)]) (rest := [.int ((2 : Int32) * x10_7), .ref (ad2 1)]) ⟨hx, hb, hml, hown, hts⟩ (c_X10_path l D cA ad M_12 x10_7 (5 : Int32) hc71) (cwV 2 hts gL_closes_X10_path rfl rfl rfl (by decide +kernel) ⟨Nat.le_of_ble_eq_true rfl, Nat.le_of_ble_eq_true rfl⟩) (xpreV hK hW.1 (k := 224) rfl (by decide) rfl) rfl rfl hl.1 rfl (lv_room (Nat.le_of_ble_eq_true rfl)) dL_closes_71 ⟨Nat.le_of_ble_eq_true rfl, Nat.le_of_ble_eq_true rfl⟩) hW (fun H locs hW => ?_)
        obtain ⟨hn74, hr⟩ := chk_e hr
        obtain ⟨N_16, eN_16, hr⟩ := lt1_e hr
        refine lx_iast hx hb hK hW (k := 1) (t := 27) rfl (by decide) (by decide) rfl (n := 8) hn74 (jx := (ix ((2 : Int32) * x10_7))) rfl dL_closes_74 (fun H locs hW => ?_)
        rw [← eN_16] at hW
        refine lv_aload hx hb dL_closes_75 (lv_at hl 3 rfl) ?_
        refine lv_iconst (v := (2 : Int32)) hx hb dL_closes_77 (by decide) ?_
        refine lv_iload hx hb dL_closes_78 (lv_at hl 8 rfl) ?_
        refine lv_imul hx hb dL_closes_80 ?_
        refine lv_iconst (v := (1 : Int32)) hx hb dL_closes_81 (by decide) ?_
        refine lv_iadd hx hb dL_closes_82 ?_
        refine lv_aload_n hx hb dL_closes_83 rfl (lv_at hl 7 rfl) ?_
        refine lv_iload hx hb dL_closes_84 (lv_at hl 8 rfl) ?_
        refine lv_bipush (v := (7 : Int32)) hx hb dL_closes_86 (by decide) ?_
        obtain ⟨r_17, hc88, hr⟩ := ob1_e hr
        refine lx_ki (va_runV (As := [.int x10_7, .int (7 : Int32)]) (rest := [.int (((2 : Int32) * x10_7) + (1 : Int32)), .ref (ad2 1)]) ⟨hx, hb, hml, hown, hts⟩ (c_X10_path l D cA ad M_12 x10_7 (7 : Int32) hc88) (cwV 2 hts gL_closes_X10_path rfl rfl rfl (by decide +kernel) ⟨Nat.le_of_ble_eq_true rfl, Nat.le_of_ble_eq_true rfl⟩) (xpreV hK hW.1 (k := 224) rfl (by decide) rfl) rfl rfl hl.1 rfl (lv_room (Nat.le_of_ble_eq_true rfl)) dL_closes_88 ⟨Nat.le_of_ble_eq_true rfl, Nat.le_of_ble_eq_true rfl⟩) hW (fun H locs hW => ?_)
        obtain ⟨hn91, hr⟩ := chk_e hr
        obtain ⟨N_18, eN_18, hr⟩ := lt1_e hr
        refine lx_iast hx hb hK hW (k := 1) (t := 27) rfl (by decide) (by decide) rfl (n := 8) hn91 (jx := (ix (((2 : Int32) * x10_7) + (1 : Int32)))) rfl dL_closes_91 (fun H locs hW => ?_)
        rw [← eN_18] at hW
        obtain ⟨x10_19, ex10_19, hr⟩ := lt1_e hr
        refine lv_iinc (v := x10_19) (lv' := [(10, .int x10_19), (8, .long r_6), (6, .long r_5), (5, .int r_4), (4, .ref (ad2 1)), (3, .ref (ad2 0)), (2, .int r_3), (1, .int r_1), (0, .ref (ad 224))]) hx hb dL_closes_92 hl (k := 8) rfl (by rw [ex10_19]; rfl) (by decide) rfl (fun ls hl => ?_)
        refine lv_goto (tgt := 45) hx hb dL_closes_95 (by decide) ?_
        exact ih x10_19 M_12 N_18 _ _ _ _ _ hW (lv_sub hl [1, 2, 3, 4, 5, 6, 7, 8, 0] rfl) hr hk
  obtain ⟨M_10, N_11, hr, hr3⟩ := ob2_e hr
  refine hL45_9 1000 (0 : Int32) M_2 lz0 _ _ _ M_10 N_11 hW (lv_sub hl [1, 2, 3, 4, 5, 6, 7, 8, 0] rfl) hr (fun H locs ls hW hl => ?_)
  clear hr
  have hr := hr3
  refine lv_aload_n hx hb dL_closes_98 rfl (lv_at hl 7 rfl) ?_
  obtain ⟨r_21, M_20, hc99, hr⟩ := ob2_e hr
  refine lx_xi (va_runV (As := []) (rest := []) ⟨hx, hb, hml, hown, hts⟩ (c_X10_close l D cA ad M_10 hc99) (cwV 0 hts gL_closes_X10_close rfl rfl rfl (by decide +kernel) ⟨Nat.le_of_ble_eq_true rfl, Nat.le_of_ble_eq_true rfl⟩) (xpreV hK hW.1 (k := 224) rfl (by decide) rfl) rfl rfl hl.1 rfl (lv_room (Nat.le_of_ble_eq_true rfl)) dL_closes_99 ⟨Nat.le_of_ble_eq_true rfl, Nat.le_of_ble_eq_true rfl⟩) hW (fun ad_22 H locs had2 hW => ?_)
  rw [← had2.1 224 rfl] at hl
  have had := had2
  refine lv_istore (lv' := [(10, .int r_21), (8, .long r_6), (6, .long r_5), (5, .int r_4), (4, .ref (ad2 1)), (3, .ref (ad2 0)), (2, .int r_3), (1, .int r_1), (0, .ref (ad_22 224))]) hx hb dL_closes_102 hl (by decide) rfl (fun ls hl => ?_)
  refine lv_iload hx hb dL_closes_104 (lv_at hl 0 rfl) ?_
  refine lv_ldc (v := (-2000000003 : Int32)) hx hb hown (hts _ (wm 2 rfl)) dL_closes_106 ?_
  refine lv_icmp_ne (tgt := 127) hx hb dL_closes_108 (by decide) (fun c1 => ?_) (fun c1 => ?_)
  · have hr := br_n c1 hr
    refine lv_iconst (v := (0 : Int32)) hx hb dL_closes_127 (by decide) ?_
    refine lv_istore (lv' := [(11, .int (0 : Int32)), (10, .int r_21), (8, .long r_6), (6, .long r_5), (5, .int r_4), (4, .ref (ad2 1)), (3, .ref (ad2 0)), (2, .int r_3), (1, .int r_1), (0, .ref (ad_22 224))]) hx hb dL_closes_128 hl (by decide) rfl (fun ls hl => ?_)
    refine lv_iconst (v := (0 : Int32)) hx hb dL_closes_130 (by decide) ?_
    refine lv_istore (lv' := [(12, .int (0 : Int32)), (11, .int (0 : Int32)), (10, .int r_21), (8, .long r_6), (6, .long r_5), (5, .int r_4), (4, .ref (ad2 1)), (3, .ref (ad2 0)), (2, .int r_3), (1, .int r_1), (0, .ref (ad_22 224))]) hx hb dL_closes_131 hl (by decide) rfl (fun ls hl => ?_)
    refine lv_iconst (v := (0 : Int32)) hx hb dL_closes_133 (by decide) ?_
    refine lv_istore (lv' := [(13, .int (0 : Int32)), (12, .int (0 : Int32)), (11, .int (0 : Int32)), (10, .int r_21), (8, .long r_6), (6, .long r_5), (5, .int r_4), (4, .ref (ad2 1)), (3, .ref (ad2 0)), (2, .int r_3), (1, .int r_1), (0, .ref (ad_22 224))]) hx hb dL_closes_134 hl (by decide) rfl (fun ls hl => ?_)
    refine lv_iload hx hb dL_closes_136 (lv_at hl 3 rfl) ?_
    refine lv_iload_n hx hb dL_closes_138 rfl (lv_at hl 9 rfl) ?_
    obtain ⟨y_23, hr, hr3⟩ := ob1_e hr
    have hj178_23 : ∀ (H : Heap) (locs : List Loc) (ls : Array Slot), lx_W D cA ad_22 ad2 M_20 N_11 (AZ ad s.heap.size) s.heap H locs → lv_has ls 19 [(13, .int (0 : Int32)), (12, .int (0 : Int32)), (11, .int (0 : Int32)), (10, .int r_21), (8, .long r_6), (6, .long r_5), (4, .ref (ad2 1)), (3, .ref (ad2 0)), (1, .int r_1), (0, .ref (ad_22 224))] → W p l e (headSpec wsL_closes { frames := 6, cells := 2, slots := 12, locals := 144 }).room s m args below meth c H locs 2 12 (MQ below (QiZ D cA ad s.heap.size r M') args s 2 12 (AZ ad s.heap.size)) (F0 m 178 ls [.int y_23]) := by
      intro H locs ls hW hl
      have hr := hr3
      refine lv_istore (lv' := [(14, .int y_23), (13, .int (0 : Int32)), (12, .int (0 : Int32)), (11, .int (0 : Int32)), (10, .int r_21), (8, .long r_6), (6, .long r_5), (4, .ref (ad2 1)), (3, .ref (ad2 0)), (1, .int r_1), (0, .ref (ad_22 224))]) hx hb dL_closes_178 hl (by decide) rfl (fun ls hl => ?_)
      refine lv_iconst (v := (0 : Int32)) hx hb dL_closes_180 (by decide) ?_
      refine lv_istore (lv' := [(15, .int (0 : Int32)), (14, .int y_23), (13, .int (0 : Int32)), (12, .int (0 : Int32)), (11, .int (0 : Int32)), (10, .int r_21), (8, .long r_6), (6, .long r_5), (4, .ref (ad2 1)), (3, .ref (ad2 0)), (1, .int r_1), (0, .ref (ad_22 224))]) hx hb dL_closes_181 hl (by decide) rfl (fun ls hl => ?_)
      have hL183_31 : ∀ (n : Nat) (x11_27 : Int32) (x12_28 : Int32) (x13_29 : Int32) (x14_30 : Int32) (x15_31 : Int32) (H : Heap) (locs : List Loc) (ls : Array Slot) (x11_32 : Int32) (x12_33 : Int32) (x13_34 : Int32) (x14_35 : Int32), lx_W D cA ad_22 ad2 M_20 N_11 (AZ ad s.heap.size) s.heap H locs → lv_has ls 19 [(10, .int r_21), (8, .long r_6), (6, .long r_5), (4, .ref (ad2 1)), (3, .ref (ad2 0)), (1, .int r_1), (0, .ref (ad_22 224)), (11, .int x11_27), (12, .int x12_28), (13, .int x13_29), (14, .int x14_30), (15, .int x15_31)] → f_L_closes_L183 r_1 N_11 M_20 n x11_27 x12_28 x13_29 x14_30 x15_31 = some (x11_32, x12_33, x13_34, x14_35) → (∀ (H : Heap) (locs : List Loc) (ls : Array Slot), lx_W D cA ad_22 ad2 M_20 N_11 (AZ ad s.heap.size) s.heap H locs → lv_has ls 19 [(10, .int r_21), (8, .long r_6), (6, .long r_5), (0, .ref (ad_22 224)), (11, .int x11_32), (12, .int x12_33), (13, .int x13_34), (14, .int x14_35)] → W p l e (headSpec wsL_closes { frames := 6, cells := 2, slots := 12, locals := 144 }).room s m args below meth c H locs 2 12 (MQ below (QiZ D cA ad s.heap.size r M') args s 2 12 (AZ ad s.heap.size)) (F0 m 485 ls [])) → W p l e (headSpec wsL_closes { frames := 6, cells := 2, slots := 12, locals := 144 }).room s m args below meth c H locs 2 12 (MQ below (QiZ D cA ad s.heap.size r M') args s 2 12 (AZ ad s.heap.size)) (F0 m 183 ls []) := by
        intro n
        induction n with
        | zero =>
          intro x11_27 x12_28 x13_29 x14_30 x15_31 H locs ls x11_32 x12_33 x13_34 x14_35 hW hl hr hk
          exact absurd hr (by simp [f_L_closes_L183])
        | succ n ih =>
          intro x11_27 x12_28 x13_29 x14_30 x15_31 H locs ls x11_32 x12_33 x13_34 x14_35 hW hl hr hk
          rw [f_L_closes_L183] at hr
          refine lv_iload hx hb dL_closes_183 (lv_at hl 11 rfl) ?_
          refine lv_iload_n hx hb dL_closes_185 rfl (lv_at hl 5 rfl) ?_
          refine lv_icmp_ge (tgt := 485) hx hb dL_closes_186 (by decide) (fun c1 => ?_) (fun c1 => ?_)
          · have hr := br_p c1 hr
            obtain ⟨e1, hr2⟩ := Prod.mk.inj (Option.some.inj hr)
            obtain ⟨e2, hr2⟩ := Prod.mk.inj hr2
            obtain ⟨e3, e4⟩ := Prod.mk.inj hr2
            subst e1
            subst e2
            subst e3
            subst e4
            exact hk _ _ _ hW (lv_sub hl [0, 1, 2, 6, 7, 8, 9, 10] rfl)
          · have hr := br_n c1 hr
            refine lv_iload hx hb dL_closes_189 (lv_at hl 10 rfl) ?_
            refine lv_if_eq (tgt := 485) hx hb dL_closes_191 (by decide) (fun c1 => ?_) (fun c1 => ?_)
            · have hr := br_p c1 hr
              obtain ⟨e1, hr2⟩ := Prod.mk.inj (Option.some.inj hr)
              obtain ⟨e2, hr2⟩ := Prod.mk.inj hr2
              obtain ⟨e3, e4⟩ := Prod.mk.inj hr2
              subst e1
              subst e2
              subst e3
              subst e4
              exact hk _ _ _ hW (lv_sub hl [0, 1, 2, 6, 7, 8, 9, 10] rfl)
            · have hr := br_n c1 hr
              refine lv_aload_n hx hb dL_closes_194 rfl (lv_at hl 6 rfl) ?_
              refine lv_iconst (v := (0 : Int32)) hx hb dL_closes_195 (by decide) ?_
              refine lv_iconst (v := (2 : Int32)) hx hb dL_closes_196 (by decide) ?_
              obtain ⟨r_36, hc197, hr⟩ := ob1_e hr
              refine lx_ki (va_runV (As := [.int (0 : Int32), .int (2 : Int32)]) (rest := []) ⟨hx, hb, hml, hown, hts⟩ (c_X10_round l D cA ad_22 M_20 (0 : Int32) (2 : Int32) hc197) (cwV 2 hts gL_closes_X10_round rfl rfl rfl (by decide +kernel) ⟨Nat.le_of_ble_eq_true rfl, Nat.le_of_ble_eq_true rfl⟩) (xpreV hK hW.1 (k := 224) rfl (by decide) rfl) rfl rfl hl.1 rfl (lv_room (Nat.le_of_ble_eq_true rfl)) dL_closes_197 ⟨Nat.le_of_ble_eq_true rfl, Nat.le_of_ble_eq_true rfl⟩) hW (fun H locs hW => ?_)
              refine lv_iload hx hb dL_closes_200 (lv_at hl 11 rfl) ?_
              refine lv_ishr hx hb dL_closes_202 ?_
              refine lv_iconst (v := (1 : Int32)) hx hb dL_closes_203 (by decide) ?_
              refine lv_iand hx hb dL_closes_204 ?_
              refine lv_iconst (v := (1 : Int32)) hx hb dL_closes_205 (by decide) ?_
              obtain ⟨y_37, hr, hr3⟩ := ob1_e hr
              have hj214_37 : ∀ (H : Heap) (locs : List Loc) (ls : Array Slot), lx_W D cA ad_22 ad2 M_20 N_11 (AZ ad s.heap.size) s.heap H locs → lv_has ls 19 [(10, .int r_21), (8, .long r_6), (6, .long r_5), (4, .ref (ad2 1)), (3, .ref (ad2 0)), (1, .int r_1), (0, .ref (ad_22 224)), (11, .int x11_27), (12, .int x12_28), (13, .int x13_29), (15, .int x15_31)] → W p l e (headSpec wsL_closes { frames := 6, cells := 2, slots := 12, locals := 144 }).room s m args below meth c H locs 2 12 (MQ below (QiZ D cA ad s.heap.size r M') args s 2 12 (AZ ad s.heap.size)) (F0 m 214 ls [.int y_37]) := by
                intro H locs ls hW hl
                have hr := hr3
                refine lv_istore (lv' := [(16, .int y_37), (10, .int r_21), (8, .long r_6), (6, .long r_5), (4, .ref (ad2 1)), (3, .ref (ad2 0)), (1, .int r_1), (0, .ref (ad_22 224)), (11, .int x11_27), (12, .int x12_28), (13, .int x13_29), (15, .int x15_31)]) hx hb dL_closes_214 hl (by decide) rfl (fun ls hl => ?_)
                refine lv_aload_n hx hb dL_closes_216 rfl (lv_at hl 7 rfl) ?_
                refine lv_iconst (v := (0 : Int32)) hx hb dL_closes_217 (by decide) ?_
                refine lv_iconst (v := (4 : Int32)) hx hb dL_closes_218 (by decide) ?_
                obtain ⟨r_38, hc219, hr⟩ := ob1_e hr
                refine lx_ki (va_runV (As := [.int (0 : Int32), .int (4 : Int32)]) (rest := []) ⟨hx, hb, hml, hown, hts⟩ (c_X10_round l D cA ad_22 M_20 (0 : Int32) (4 : Int32) hc219) (cwV 2 hts gL_closes_X10_round rfl rfl rfl (by decide +kernel) ⟨Nat.le_of_ble_eq_true rfl, Nat.le_of_ble_eq_true rfl⟩) (xpreV hK hW.1 (k := 224) rfl (by decide) rfl) rfl rfl hl.1 rfl (lv_room (Nat.le_of_ble_eq_true rfl)) dL_closes_219 ⟨Nat.le_of_ble_eq_true rfl, Nat.le_of_ble_eq_true rfl⟩) hW (fun H locs hW => ?_)
                refine lv_iload hx hb dL_closes_222 (lv_at hl 11 rfl) ?_
                refine lv_ishr hx hb dL_closes_224 ?_
                refine lv_iconst (v := (1 : Int32)) hx hb dL_closes_225 (by decide) ?_
                refine lv_iand hx hb dL_closes_226 ?_
                refine lv_iconst (v := (1 : Int32)) hx hb dL_closes_227 (by decide) ?_
                obtain ⟨y_39, hr, hr3⟩ := ob1_e hr
                have hj236_39 : ∀ (H : Heap) (locs : List Loc) (ls : Array Slot), lx_W D cA ad_22 ad2 M_20 N_11 (AZ ad s.heap.size) s.heap H locs → lv_has ls 19 [(16, .int y_37), (10, .int r_21), (8, .long r_6), (6, .long r_5), (4, .ref (ad2 1)), (3, .ref (ad2 0)), (1, .int r_1), (0, .ref (ad_22 224)), (11, .int x11_27), (12, .int x12_28), (13, .int x13_29), (15, .int x15_31)] → W p l e (headSpec wsL_closes { frames := 6, cells := 2, slots := 12, locals := 144 }).room s m args below meth c H locs 2 12 (MQ below (QiZ D cA ad s.heap.size r M') args s 2 12 (AZ ad s.heap.size)) (F0 m 236 ls [.int y_39]) := by
                  intro H locs ls hW hl
                  have hr := hr3
                  refine lv_istore (lv' := [(17, .int y_39), (16, .int y_37), (10, .int r_21), (8, .long r_6), (6, .long r_5), (4, .ref (ad2 1)), (3, .ref (ad2 0)), (1, .int r_1), (0, .ref (ad_22 224)), (11, .int x11_27), (12, .int x12_28), (13, .int x13_29), (15, .int x15_31)]) hx hb dL_closes_236 hl (by decide) rfl (fun ls hl => ?_)
                  refine lv_aload_n hx hb dL_closes_238 rfl (lv_at hl 8 rfl) ?_
                  refine lv_iload hx hb dL_closes_239 (lv_at hl 12 rfl) ?_
                  refine lv_bipush (v := (9 : Int32)) hx hb dL_closes_241 (by decide) ?_
                  obtain ⟨r_40, hc243, hr⟩ := ob1_e hr
                  refine lx_ki (va_runV (As := [.int x15_31, .int (9 : Int32)]) (rest := []) ⟨hx, hb, hml, hown, hts⟩ (c_X10_path l D cA ad_22 M_20 x15_31 (9 : Int32) hc243) (cwV 2 hts gL_closes_X10_path rfl rfl rfl (by decide +kernel) ⟨Nat.le_of_ble_eq_true rfl, Nat.le_of_ble_eq_true rfl⟩) (xpreV hK hW.1 (k := 224) rfl (by decide) rfl) rfl rfl hl.1 rfl (lv_room (Nat.le_of_ble_eq_true rfl)) dL_closes_243 ⟨Nat.le_of_ble_eq_true rfl, Nat.le_of_ble_eq_true rfl⟩) hW (fun H locs hW => ?_)
                  refine lv_istore (lv' := [(18, .int r_40), (17, .int y_39), (16, .int y_37), (10, .int r_21), (8, .long r_6), (6, .long r_5), (4, .ref (ad2 1)), (3, .ref (ad2 0)), (1, .int r_1), (0, .ref (ad_22 224)), (11, .int x11_27), (12, .int x12_28), (13, .int x13_29), (15, .int x15_31)]) hx hb dL_closes_246 hl (by decide) rfl (fun ls hl => ?_)
                  refine lv_aload_n hx hb dL_closes_248 rfl (lv_at hl 9 rfl) ?_
                  refine lv_iload hx hb dL_closes_249 (lv_at hl 13 rfl) ?_
                  refine lv_bipush (v := (8 : Int32)) hx hb dL_closes_251 (by decide) ?_
                  obtain ⟨r_41, hc253, hr⟩ := ob1_e hr
                  refine lx_ki (va_runV (As := [.int x15_31, .int (8 : Int32)]) (rest := []) ⟨hx, hb, hml, hown, hts⟩ (c_X10_path l D cA ad_22 M_20 x15_31 (8 : Int32) hc253) (cwV 2 hts gL_closes_X10_path rfl rfl rfl (by decide +kernel) ⟨Nat.le_of_ble_eq_true rfl, Nat.le_of_ble_eq_true rfl⟩) (xpreV hK hW.1 (k := 224) rfl (by decide) rfl) rfl rfl hl.1 rfl (lv_room (Nat.le_of_ble_eq_true rfl)) dL_closes_253 ⟨Nat.le_of_ble_eq_true rfl, Nat.le_of_ble_eq_true rfl⟩) hW (fun H locs hW => ?_)
                  refine lv_aload_n hx hb dL_closes_256 rfl (lv_at hl 7 rfl) ?_
                  refine lv_iload hx hb dL_closes_257 (lv_at hl 13 rfl) ?_
                  obtain ⟨hn259, hr⟩ := chk_e hr
                  refine xiald hx hb hK hW.2.1 (k := 0) (t := 20) rfl (by decide) (by decide) rfl (n := 4) hn259 (jx := (ix x15_31)) rfl dL_closes_259 ?_
                  obtain ⟨y_42, hr, hr3⟩ := ob1_e hr
                  have hj404_42 : ∀ (H : Heap) (locs : List Loc) (ls : Array Slot), lx_W D cA ad_22 ad2 M_20 N_11 (AZ ad s.heap.size) s.heap H locs → lv_has ls 19 [(18, .int r_40), (10, .int r_21), (8, .long r_6), (6, .long r_5), (4, .ref (ad2 1)), (3, .ref (ad2 0)), (1, .int r_1), (0, .ref (ad_22 224)), (11, .int x11_27), (12, .int x12_28), (13, .int x13_29), (15, .int x15_31)] → W p l e (headSpec wsL_closes { frames := 6, cells := 2, slots := 12, locals := 144 }).room s m args below meth c H locs 2 12 (MQ below (QiZ D cA ad s.heap.size r M') args s 2 12 (AZ ad s.heap.size)) (F0 m 404 ls [.int y_42]) := by
                    intro H locs ls hW hl
                    have hr := hr3
                    refine lv_istore (lv' := [(14, .int y_42), (18, .int r_40), (10, .int r_21), (8, .long r_6), (6, .long r_5), (4, .ref (ad2 1)), (3, .ref (ad2 0)), (1, .int r_1), (0, .ref (ad_22 224)), (11, .int x11_27), (12, .int x12_28), (13, .int x13_29), (15, .int x15_31)]) hx hb dL_closes_404 hl (by decide) rfl (fun ls hl => ?_)
                    refine lv_iload hx hb dL_closes_406 (lv_at hl 1 rfl) ?_
                    refine lv_ldc (v := (-2000000005 : Int32)) hx hb hown (hts _ (wm 3 rfl)) dL_closes_408 ?_
                    obtain ⟨y_50, hr, hr3⟩ := ob1_e hr
                    have hj432_50 : ∀ (H : Heap) (locs : List Loc) (ls : Array Slot), lx_W D cA ad_22 ad2 M_20 N_11 (AZ ad s.heap.size) s.heap H locs → lv_has ls 19 [(14, .int y_42), (18, .int r_40), (10, .int r_21), (8, .long r_6), (6, .long r_5), (4, .ref (ad2 1)), (3, .ref (ad2 0)), (1, .int r_1), (0, .ref (ad_22 224)), (12, .int x12_28), (13, .int x13_29), (15, .int x15_31)] → W p l e (headSpec wsL_closes { frames := 6, cells := 2, slots := 12, locals := 144 }).room s m args below meth c H locs 2 12 (MQ below (QiZ D cA ad s.heap.size r M') args s 2 12 (AZ ad s.heap.size)) (F0 m 432 ls [.int y_50]) := by
                      intro H locs ls hW hl
                      have hr := hr3
                      refine lv_istore (lv' := [(11, .int y_50), (14, .int y_42), (18, .int r_40), (10, .int r_21), (8, .long r_6), (6, .long r_5), (4, .ref (ad2 1)), (3, .ref (ad2 0)), (1, .int r_1), (0, .ref (ad_22 224)), (12, .int x12_28), (13, .int x13_29), (15, .int x15_31)]) hx hb dL_closes_432 hl (by decide) rfl (fun ls hl => ?_)
                      refine lv_iload hx hb dL_closes_434 (lv_at hl 2 rfl) ?_
                      refine lv_ldc (v := (-2000000005 : Int32)) hx hb hown (hts _ (wm 3 rfl)) dL_closes_436 ?_
                      obtain ⟨y_51, hr, hr3⟩ := ob1_e hr
                      have hj460_51 : ∀ (H : Heap) (locs : List Loc) (ls : Array Slot), lx_W D cA ad_22 ad2 M_20 N_11 (AZ ad s.heap.size) s.heap H locs → lv_has ls 19 [(11, .int y_50), (14, .int y_42), (18, .int r_40), (10, .int r_21), (8, .long r_6), (6, .long r_5), (4, .ref (ad2 1)), (3, .ref (ad2 0)), (1, .int r_1), (0, .ref (ad_22 224)), (13, .int x13_29), (15, .int x15_31)] → W p l e (headSpec wsL_closes { frames := 6, cells := 2, slots := 12, locals := 144 }).room s m args below meth c H locs 2 12 (MQ below (QiZ D cA ad s.heap.size r M') args s 2 12 (AZ ad s.heap.size)) (F0 m 460 ls [.int y_51]) := by
                        intro H locs ls hW hl
                        have hr := hr3
                        refine lv_istore (lv' := [(12, .int y_51), (11, .int y_50), (14, .int y_42), (18, .int r_40), (10, .int r_21), (8, .long r_6), (6, .long r_5), (4, .ref (ad2 1)), (3, .ref (ad2 0)), (1, .int r_1), (0, .ref (ad_22 224)), (13, .int x13_29), (15, .int x15_31)]) hx hb dL_closes_460 hl (by decide) rfl (fun ls hl => ?_)
                        refine lv_iload hx hb dL_closes_462 (lv_at hl 11 rfl) ?_
                        refine lv_iload hx hb dL_closes_464 (lv_at hl 3 rfl) ?_
                        refine lv_ldc (v := (-2000000005 : Int32)) hx hb hown (hts _ (wm 3 rfl)) dL_closes_466 ?_
                        obtain ⟨y_52, hr, hr3⟩ := ob1_e hr
                        have hj476_52 : ∀ (H : Heap) (locs : List Loc) (ls : Array Slot), lx_W D cA ad_22 ad2 M_20 N_11 (AZ ad s.heap.size) s.heap H locs → lv_has ls 19 [(12, .int y_51), (11, .int y_50), (14, .int y_42), (10, .int r_21), (8, .long r_6), (6, .long r_5), (4, .ref (ad2 1)), (3, .ref (ad2 0)), (1, .int r_1), (0, .ref (ad_22 224)), (15, .int x15_31)] → W p l e (headSpec wsL_closes { frames := 6, cells := 2, slots := 12, locals := 144 }).room s m args below meth c H locs 2 12 (MQ below (QiZ D cA ad s.heap.size r M') args s 2 12 (AZ ad s.heap.size)) (F0 m 476 ls [.int y_52, .int x13_29]) := by
                          intro H locs ls hW hl
                          have hr := hr3
                          refine lv_iadd hx hb dL_closes_476 ?_
                          obtain ⟨x13_53, ex13_53, hr⟩ := lt1_e hr
                          rw [← ex13_53]
                          refine lv_istore (lv' := [(13, .int x13_53), (12, .int y_51), (11, .int y_50), (14, .int y_42), (10, .int r_21), (8, .long r_6), (6, .long r_5), (4, .ref (ad2 1)), (3, .ref (ad2 0)), (1, .int r_1), (0, .ref (ad_22 224)), (15, .int x15_31)]) hx hb dL_closes_477 hl (by decide) rfl (fun ls hl => ?_)
                          obtain ⟨x15_54, ex15_54, hr⟩ := lt1_e hr
                          refine lv_iinc (v := x15_54) (lv' := [(15, .int x15_54), (13, .int x13_53), (12, .int y_51), (11, .int y_50), (14, .int y_42), (10, .int r_21), (8, .long r_6), (6, .long r_5), (4, .ref (ad2 1)), (3, .ref (ad2 0)), (1, .int r_1), (0, .ref (ad_22 224))]) hx hb dL_closes_479 hl (k := 11) rfl (by rw [ex15_54]; rfl) (by decide) rfl (fun ls hl => ?_)
                          refine lv_goto (tgt := 183) hx hb dL_closes_482 (by decide) ?_
                          exact ih y_50 y_51 x13_53 y_42 x15_54 _ _ _ _ _ _ _ hW (lv_sub hl [5, 6, 7, 8, 9, 10, 11, 3, 2, 1, 4, 0] rfl) hr hk
                        clear hr3
                        refine lv_icmp_ne (tgt := 475) hx hb dL_closes_468 (by decide) (fun c1 => ?_) (fun c1 => ?_)
                        · have hr := br_n c1 hr
                          refine lv_iconst (v := (1 : Int32)) hx hb dL_closes_475 (by decide) ?_
                          have e1 := Option.some.inj hr
                          subst e1
                          exact hj476_52 _ _ _ hW (lv_sub hl [0, 1, 2, 4, 5, 6, 7, 8, 9, 10, 12] rfl)
                        · have hr := br_p c1 hr
                          refine lv_iconst (v := (0 : Int32)) hx hb dL_closes_471 (by decide) ?_
                          refine lv_goto (tgt := 476) hx hb dL_closes_472 (by decide) ?_
                          have e1 := Option.some.inj hr
                          subst e1
                          exact hj476_52 _ _ _ hW (lv_sub hl [0, 1, 2, 4, 5, 6, 7, 8, 9, 10, 12] rfl)
                      clear hr3
                      have hj458_51 : ∀ (H : Heap) (locs : List Loc) (ls : Array Slot), lx_W D cA ad_22 ad2 M_20 N_11 (AZ ad s.heap.size) s.heap H locs → lv_has ls 19 [(11, .int y_50), (14, .int y_42), (18, .int r_40), (10, .int r_21), (8, .long r_6), (6, .long r_5), (4, .ref (ad2 1)), (3, .ref (ad2 0)), (1, .int r_1), (0, .ref (ad_22 224)), (12, .int x12_28), (13, .int x13_29), (15, .int x15_31)] → f_L_closes_J458 x12_28 = some y_51 → W p l e (headSpec wsL_closes { frames := 6, cells := 2, slots := 12, locals := 144 }).room s m args below meth c H locs 2 12 (MQ below (QiZ D cA ad s.heap.size r M') args s 2 12 (AZ ad s.heap.size)) (F0 m 458 ls []) := by
                        intro H locs ls hW hl hr
                        unfold f_L_closes_J458 at hr
                        refine lv_iload hx hb dL_closes_458 (lv_at hl 10 rfl) ?_
                        have e1 := Option.some.inj hr
                        subst e1
                        exact hj460_51 _ _ _ hW (lv_sub hl [0, 1, 2, 3, 4, 5, 6, 7, 8, 9, 11, 12] rfl)
                      refine lv_icmp_eq (tgt := 458) hx hb dL_closes_438 (by decide) (fun c1 => ?_) (fun c1 => ?_)
                      · have hr := br_p c1 hr
                        exact hj458_51 _ _ _ hW (lv_sub hl [0, 1, 2, 3, 4, 5, 6, 7, 8, 9, 10, 11, 12] rfl) hr
                      · have hr := br_n c1 hr
                        refine lv_iload hx hb dL_closes_441 (lv_at hl 11 rfl) ?_
                        have hj453_51 : ∀ (H : Heap) (locs : List Loc) (ls : Array Slot), lx_W D cA ad_22 ad2 M_20 N_11 (AZ ad s.heap.size) s.heap H locs → lv_has ls 19 [(11, .int y_50), (14, .int y_42), (18, .int r_40), (10, .int r_21), (8, .long r_6), (6, .long r_5), (4, .ref (ad2 1)), (3, .ref (ad2 0)), (1, .int r_1), (0, .ref (ad_22 224)), (13, .int x13_29), (15, .int x15_31)] → f_L_closes_J453 r_40 = some y_51 → W p l e (headSpec wsL_closes { frames := 6, cells := 2, slots := 12, locals := 144 }).room s m args below meth c H locs 2 12 (MQ below (QiZ D cA ad s.heap.size r M') args s 2 12 (AZ ad s.heap.size)) (F0 m 453 ls []) := by
                          intro H locs ls hW hl hr
                          unfold f_L_closes_J453 at hr
                          refine lv_iload hx hb dL_closes_453 (lv_at hl 2 rfl) ?_
                          refine lv_goto (tgt := 460) hx hb dL_closes_455 (by decide) ?_
                          have e1 := Option.some.inj hr
                          subst e1
                          exact hj460_51 _ _ _ hW (lv_sub hl [0, 1, 2, 3, 4, 5, 6, 7, 8, 9, 10, 11] rfl)
                        refine lv_if_eq (tgt := 453) hx hb dL_closes_443 (by decide) (fun c1 => ?_) (fun c1 => ?_)
                        · have hr := br_p c1 hr
                          exact hj453_51 _ _ _ hW (lv_sub hl [0, 1, 2, 3, 4, 5, 6, 7, 8, 9, 11, 12] rfl) hr
                        · have hr := br_n c1 hr
                          refine lv_iload hx hb dL_closes_446 (lv_at hl 2 rfl) ?_
                          refine lv_iload hx hb dL_closes_448 (lv_at hl 10 rfl) ?_
                          refine lv_icmp_le (tgt := 458) hx hb dL_closes_450 (by decide) (fun c1 => ?_) (fun c1 => ?_)
                          · have hr := br_p c1 hr
                            exact hj458_51 _ _ _ hW (lv_sub hl [0, 1, 2, 3, 4, 5, 6, 7, 8, 9, 10, 11, 12] rfl) hr
                          · have hr := br_n c1 hr
                            exact hj453_51 _ _ _ hW (lv_sub hl [0, 1, 2, 3, 4, 5, 6, 7, 8, 9, 11, 12] rfl) hr
                    clear hr3
                    have hj430_50 : ∀ (H : Heap) (locs : List Loc) (ls : Array Slot), lx_W D cA ad_22 ad2 M_20 N_11 (AZ ad s.heap.size) s.heap H locs → lv_has ls 19 [(14, .int y_42), (18, .int r_40), (10, .int r_21), (8, .long r_6), (6, .long r_5), (4, .ref (ad2 1)), (3, .ref (ad2 0)), (1, .int r_1), (0, .ref (ad_22 224)), (11, .int x11_27), (12, .int x12_28), (13, .int x13_29), (15, .int x15_31)] → f_L_closes_J430 x11_27 = some y_50 → W p l e (headSpec wsL_closes { frames := 6, cells := 2, slots := 12, locals := 144 }).room s m args below meth c H locs 2 12 (MQ below (QiZ D cA ad s.heap.size r M') args s 2 12 (AZ ad s.heap.size)) (F0 m 430 ls []) := by
                      intro H locs ls hW hl hr
                      unfold f_L_closes_J430 at hr
                      refine lv_iload hx hb dL_closes_430 (lv_at hl 9 rfl) ?_
                      have e1 := Option.some.inj hr
                      subst e1
                      exact hj432_50 _ _ _ hW (lv_sub hl [0, 1, 2, 3, 4, 5, 6, 7, 8, 10, 11, 12] rfl)
                    refine lv_icmp_eq (tgt := 430) hx hb dL_closes_410 (by decide) (fun c1 => ?_) (fun c1 => ?_)
                    · have hr := br_p c1 hr
                      exact hj430_50 _ _ _ hW (lv_sub hl [0, 1, 2, 3, 4, 5, 6, 7, 8, 9, 10, 11, 12] rfl) hr
                    · have hr := br_n c1 hr
                      refine lv_iload hx hb dL_closes_413 (lv_at hl 11 rfl) ?_
                      have hj425_50 : ∀ (H : Heap) (locs : List Loc) (ls : Array Slot), lx_W D cA ad_22 ad2 M_20 N_11 (AZ ad s.heap.size) s.heap H locs → lv_has ls 19 [(14, .int y_42), (18, .int r_40), (10, .int r_21), (8, .long r_6), (6, .long r_5), (4, .ref (ad2 1)), (3, .ref (ad2 0)), (1, .int r_1), (0, .ref (ad_22 224)), (12, .int x12_28), (13, .int x13_29), (15, .int x15_31)] → f_L_closes_J425 r_40 = some y_50 → W p l e (headSpec wsL_closes { frames := 6, cells := 2, slots := 12, locals := 144 }).room s m args below meth c H locs 2 12 (MQ below (QiZ D cA ad s.heap.size r M') args s 2 12 (AZ ad s.heap.size)) (F0 m 425 ls []) := by
                        intro H locs ls hW hl hr
                        unfold f_L_closes_J425 at hr
                        refine lv_iload hx hb dL_closes_425 (lv_at hl 1 rfl) ?_
                        refine lv_goto (tgt := 432) hx hb dL_closes_427 (by decide) ?_
                        have e1 := Option.some.inj hr
                        subst e1
                        exact hj432_50 _ _ _ hW (lv_sub hl [0, 1, 2, 3, 4, 5, 6, 7, 8, 9, 10, 11] rfl)
                      refine lv_if_eq (tgt := 425) hx hb dL_closes_415 (by decide) (fun c1 => ?_) (fun c1 => ?_)
                      · have hr := br_p c1 hr
                        exact hj425_50 _ _ _ hW (lv_sub hl [0, 1, 2, 3, 4, 5, 6, 7, 8, 10, 11, 12] rfl) hr
                      · have hr := br_n c1 hr
                        refine lv_iload hx hb dL_closes_418 (lv_at hl 1 rfl) ?_
                        refine lv_iload hx hb dL_closes_420 (lv_at hl 9 rfl) ?_
                        refine lv_icmp_ge (tgt := 430) hx hb dL_closes_422 (by decide) (fun c1 => ?_) (fun c1 => ?_)
                        · have hr := br_p c1 hr
                          exact hj430_50 _ _ _ hW (lv_sub hl [0, 1, 2, 3, 4, 5, 6, 7, 8, 9, 10, 11, 12] rfl) hr
                        · have hr := br_n c1 hr
                          exact hj425_50 _ _ _ hW (lv_sub hl [0, 1, 2, 3, 4, 5, 6, 7, 8, 10, 11, 12] rfl) hr
                  clear hr3
                  refine lv_icmp_ne (tgt := 403) hx hb dL_closes_260 (by decide) (fun c1 => ?_) (fun c1 => ?_)
                  · have hr := br_n c1 hr
                    refine lv_iconst (v := (0 : Int32)) hx hb dL_closes_403 (by decide) ?_
                    have e1 := Option.some.inj hr
                    subst e1
                    exact hj404_42 _ _ _ hW (lv_sub hl [0, 3, 4, 5, 6, 7, 8, 9, 10, 11, 12, 13] rfl)
                  · have hr := br_p c1 hr
                    refine lv_iload hx hb dL_closes_263 (lv_at hl 2 rfl) ?_
                    refine lv_aload_n hx hb dL_closes_265 rfl (lv_at hl 7 rfl) ?_
                    refine lv_iload hx hb dL_closes_266 (lv_at hl 13 rfl) ?_
                    obtain ⟨hn268, hr⟩ := chk_e hr
                    refine xiald hx hb hK hW.2.1 (k := 0) (t := 20) rfl (by decide) (by decide) rfl (n := 4) hn268 (jx := (ix x15_31)) rfl dL_closes_268 ?_
                    refine lv_iconst (v := (2 : Int32)) hx hb dL_closes_269 (by decide) ?_
                    obtain ⟨y_43, hr, hr3⟩ := ob1_e hr
                    have hj278_43 : ∀ (H : Heap) (locs : List Loc) (ls : Array Slot), lx_W D cA ad_22 ad2 M_20 N_11 (AZ ad s.heap.size) s.heap H locs → lv_has ls 19 [(18, .int r_40), (17, .int y_39), (16, .int y_37), (10, .int r_21), (8, .long r_6), (6, .long r_5), (4, .ref (ad2 1)), (3, .ref (ad2 0)), (1, .int r_1), (0, .ref (ad_22 224)), (11, .int x11_27), (12, .int x12_28), (13, .int x13_29), (15, .int x15_31)] → W p l e (headSpec wsL_closes { frames := 6, cells := 2, slots := 12, locals := 144 }).room s m args below meth c H locs 2 12 (MQ below (QiZ D cA ad s.heap.size r M') args s 2 12 (AZ ad s.heap.size)) (F0 m 278 ls [.int y_43, .int y_37]) := by
                      intro H locs ls hW hl
                      have hr := hr3
                      refine lv_icmp_ne (tgt := 403) hx hb dL_closes_278 (by decide) (fun c1 => ?_) (fun c1 => ?_)
                      · have hr := br_n c1 hr
                        refine lv_iconst (v := (0 : Int32)) hx hb dL_closes_403 (by decide) ?_
                        have e1 := Option.some.inj hr
                        subst e1
                        exact hj404_42 _ _ _ hW (lv_sub hl [0, 3, 4, 5, 6, 7, 8, 9, 10, 11, 12, 13] rfl)
                      · have hr := br_p c1 hr
                        refine lv_aload_n hx hb dL_closes_281 rfl (lv_at hl 9 rfl) ?_
                        refine lv_iconst (v := (0 : Int32)) hx hb dL_closes_282 (by decide) ?_
                        refine lv_iconst (v := (3 : Int32)) hx hb dL_closes_283 (by decide) ?_
                        obtain ⟨r_44, hc284, hr⟩ := ob1_e hr
                        refine lx_ki (va_runV (As := [.int (0 : Int32), .int (3 : Int32)]) (rest := []) ⟨hx, hb, hml, hown, hts⟩ (c_X10_round l D cA ad_22 M_20 (0 : Int32) (3 : Int32) hc284) (cwV 2 hts gL_closes_X10_round rfl rfl rfl (by decide +kernel) ⟨Nat.le_of_ble_eq_true rfl, Nat.le_of_ble_eq_true rfl⟩) (xpreV hK hW.1 (k := 224) rfl (by decide) rfl) rfl rfl hl.1 rfl (lv_room (Nat.le_of_ble_eq_true rfl)) dL_closes_284 ⟨Nat.le_of_ble_eq_true rfl, Nat.le_of_ble_eq_true rfl⟩) hW (fun H locs hW => ?_)
                        refine lv_iload hx hb dL_closes_287 (lv_at hl 13 rfl) ?_
                        refine lv_ishr hx hb dL_closes_289 ?_
                        refine lv_iconst (v := (1 : Int32)) hx hb dL_closes_290 (by decide) ?_
                        refine lv_iand hx hb dL_closes_291 ?_
                        refine lv_aload_n hx hb dL_closes_292 rfl (lv_at hl 7 rfl) ?_
                        refine lv_iload hx hb dL_closes_293 (lv_at hl 13 rfl) ?_
                        obtain ⟨hn295, hr⟩ := chk_e hr
                        refine xiald hx hb hK hW.2.1 (k := 0) (t := 20) rfl (by decide) (by decide) rfl (n := 4) hn295 (jx := (ix x15_31)) rfl dL_closes_295 ?_
                        refine lv_iconst (v := (3 : Int32)) hx hb dL_closes_296 (by decide) ?_
                        obtain ⟨y_45, hr, hr3⟩ := ob1_e hr
                        have hj305_45 : ∀ (H : Heap) (locs : List Loc) (ls : Array Slot), lx_W D cA ad_22 ad2 M_20 N_11 (AZ ad s.heap.size) s.heap H locs → lv_has ls 19 [(18, .int r_40), (17, .int y_39), (16, .int y_37), (10, .int r_21), (8, .long r_6), (6, .long r_5), (4, .ref (ad2 1)), (3, .ref (ad2 0)), (1, .int r_1), (0, .ref (ad_22 224)), (11, .int x11_27), (12, .int x12_28), (13, .int x13_29), (15, .int x15_31)] → W p l e (headSpec wsL_closes { frames := 6, cells := 2, slots := 12, locals := 144 }).room s m args below meth c H locs 2 12 (MQ below (QiZ D cA ad s.heap.size r M') args s 2 12 (AZ ad s.heap.size)) (F0 m 305 ls [.int y_45, .int ((r_44 >>> (x15_31 &&& 31)) &&& (1 : Int32))]) := by
                          intro H locs ls hW hl
                          have hr := hr3
                          refine lv_icmp_ne (tgt := 403) hx hb dL_closes_305 (by decide) (fun c1 => ?_) (fun c1 => ?_)
                          · have hr := br_n c1 hr
                            refine lv_iconst (v := (0 : Int32)) hx hb dL_closes_403 (by decide) ?_
                            have e1 := Option.some.inj hr
                            subst e1
                            exact hj404_42 _ _ _ hW (lv_sub hl [0, 3, 4, 5, 6, 7, 8, 9, 10, 11, 12, 13] rfl)
                          · have hr := br_p c1 hr
                            refine lv_iload hx hb dL_closes_308 (lv_at hl 2 rfl) ?_
                            have hj350_47 : ∀ (H : Heap) (locs : List Loc) (ls : Array Slot), lx_W D cA ad_22 ad2 M_20 N_11 (AZ ad s.heap.size) s.heap H locs → lv_has ls 19 [(18, .int r_40), (17, .int y_39), (16, .int y_37), (10, .int r_21), (8, .long r_6), (6, .long r_5), (4, .ref (ad2 1)), (3, .ref (ad2 0)), (1, .int r_1), (0, .ref (ad_22 224)), (11, .int x11_27), (12, .int x12_28), (13, .int x13_29), (15, .int x15_31)] → f_L_closes_J350 N_11 x15_31 y_37 y_39 r_40 = some y_42 → W p l e (headSpec wsL_closes { frames := 6, cells := 2, slots := 12, locals := 144 }).room s m args below meth c H locs 2 12 (MQ below (QiZ D cA ad s.heap.size r M') args s 2 12 (AZ ad s.heap.size)) (F0 m 350 ls []) := by
                              intro H locs ls hW hl hr
                              unfold f_L_closes_J350 at hr
                              refine lv_iload hx hb dL_closes_350 (lv_at hl 1 rfl) ?_
                              have hj369_47 : ∀ (H : Heap) (locs : List Loc) (ls : Array Slot), lx_W D cA ad_22 ad2 M_20 N_11 (AZ ad s.heap.size) s.heap H locs → lv_has ls 19 [(18, .int r_40), (17, .int y_39), (16, .int y_37), (10, .int r_21), (8, .long r_6), (6, .long r_5), (4, .ref (ad2 1)), (3, .ref (ad2 0)), (1, .int r_1), (0, .ref (ad_22 224)), (11, .int x11_27), (12, .int x12_28), (13, .int x13_29), (15, .int x15_31)] → f_L_closes_J369 y_37 y_39 r_40 = some y_42 → W p l e (headSpec wsL_closes { frames := 6, cells := 2, slots := 12, locals := 144 }).room s m args below meth c H locs 2 12 (MQ below (QiZ D cA ad s.heap.size r M') args s 2 12 (AZ ad s.heap.size)) (F0 m 369 ls []) := by
                                intro H locs ls hW hl hr
                                unfold f_L_closes_J369 at hr
                                refine lv_iload hx hb dL_closes_369 (lv_at hl 0 rfl) ?_
                                refine lv_ldc (v := (-2000000005 : Int32)) hx hb hown (hts _ (wm 3 rfl)) dL_closes_371 ?_
                                obtain ⟨y_46, hr, hr3⟩ := ob1_e hr
                                have hj381_46 : ∀ (H : Heap) (locs : List Loc) (ls : Array Slot), lx_W D cA ad_22 ad2 M_20 N_11 (AZ ad s.heap.size) s.heap H locs → lv_has ls 19 [(18, .int r_40), (17, .int y_39), (16, .int y_37), (10, .int r_21), (8, .long r_6), (6, .long r_5), (4, .ref (ad2 1)), (3, .ref (ad2 0)), (1, .int r_1), (0, .ref (ad_22 224)), (11, .int x11_27), (12, .int x12_28), (13, .int x13_29), (15, .int x15_31)] → W p l e (headSpec wsL_closes { frames := 6, cells := 2, slots := 12, locals := 144 }).room s m args below meth c H locs 2 12 (MQ below (QiZ D cA ad s.heap.size r M') args s 2 12 (AZ ad s.heap.size)) (F0 m 381 ls [.int y_46]) := by
                                  intro H locs ls hW hl
                                  have hr := hr3
                                  refine lv_iload hx hb dL_closes_381 (lv_at hl 2 rfl) ?_
                                  obtain ⟨y_47, hr, hr3⟩ := ob1_e hr
                                  have hj396_47 : ∀ (H : Heap) (locs : List Loc) (ls : Array Slot), lx_W D cA ad_22 ad2 M_20 N_11 (AZ ad s.heap.size) s.heap H locs → lv_has ls 19 [(18, .int r_40), (10, .int r_21), (8, .long r_6), (6, .long r_5), (4, .ref (ad2 1)), (3, .ref (ad2 0)), (1, .int r_1), (0, .ref (ad_22 224)), (11, .int x11_27), (12, .int x12_28), (13, .int x13_29), (15, .int x15_31)] → W p l e (headSpec wsL_closes { frames := 6, cells := 2, slots := 12, locals := 144 }).room s m args below meth c H locs 2 12 (MQ below (QiZ D cA ad s.heap.size r M') args s 2 12 (AZ ad s.heap.size)) (F0 m 396 ls [.int y_47, .int y_46]) := by
                                    intro H locs ls hW hl
                                    have hr := hr3
                                    refine lv_icmp_ne (tgt := 403) hx hb dL_closes_396 (by decide) (fun c1 => ?_) (fun c1 => ?_)
                                    · have hr := br_n c1 hr
                                      refine lv_iconst (v := (0 : Int32)) hx hb dL_closes_403 (by decide) ?_
                                      have e1 := Option.some.inj hr
                                      subst e1
                                      exact hj404_42 _ _ _ hW (lv_sub hl [0, 1, 2, 3, 4, 5, 6, 7, 8, 9, 10, 11] rfl)
                                    · have hr := br_p c1 hr
                                      refine lv_iconst (v := (1 : Int32)) hx hb dL_closes_399 (by decide) ?_
                                      refine lv_goto (tgt := 404) hx hb dL_closes_400 (by decide) ?_
                                      have e1 := Option.some.inj hr
                                      subst e1
                                      exact hj404_42 _ _ _ hW (lv_sub hl [0, 1, 2, 3, 4, 5, 6, 7, 8, 9, 10, 11] rfl)
                                  clear hr3
                                  refine lv_if_ne (tgt := 391) hx hb dL_closes_383 (by decide) (fun c1 => ?_) (fun c1 => ?_)
                                  · have hr := br_n c1 hr
                                    refine lv_iconst (v := (1 : Int32)) hx hb dL_closes_391 (by decide) ?_
                                    refine lv_goto (tgt := 396) hx hb dL_closes_392 (by decide) ?_
                                    have e1 := Option.some.inj hr
                                    subst e1
                                    exact hj396_47 _ _ _ hW (lv_sub hl [0, 3, 4, 5, 6, 7, 8, 9, 10, 11, 12, 13] rfl)
                                  · have hr := br_p c1 hr
                                    refine lv_iload hx hb dL_closes_386 (lv_at hl 1 rfl) ?_
                                    refine lv_if_eq (tgt := 395) hx hb dL_closes_388 (by decide) (fun c1 => ?_) (fun c1 => ?_)
                                    · have hr := br_p c1 hr
                                      refine lv_iconst (v := (0 : Int32)) hx hb dL_closes_395 (by decide) ?_
                                      have e1 := Option.some.inj hr
                                      subst e1
                                      exact hj396_47 _ _ _ hW (lv_sub hl [0, 3, 4, 5, 6, 7, 8, 9, 10, 11, 12, 13] rfl)
                                    · have hr := br_n c1 hr
                                      refine lv_iconst (v := (1 : Int32)) hx hb dL_closes_391 (by decide) ?_
                                      refine lv_goto (tgt := 396) hx hb dL_closes_392 (by decide) ?_
                                      have e1 := Option.some.inj hr
                                      subst e1
                                      exact hj396_47 _ _ _ hW (lv_sub hl [0, 3, 4, 5, 6, 7, 8, 9, 10, 11, 12, 13] rfl)
                                clear hr3
                                refine lv_icmp_eq (tgt := 380) hx hb dL_closes_373 (by decide) (fun c1 => ?_) (fun c1 => ?_)
                                · have hr := br_p c1 hr
                                  refine lv_iconst (v := (0 : Int32)) hx hb dL_closes_380 (by decide) ?_
                                  have e1 := Option.some.inj hr
                                  subst e1
                                  exact hj381_46 _ _ _ hW (lv_sub hl [0, 1, 2, 3, 4, 5, 6, 7, 8, 9, 10, 11, 12, 13] rfl)
                                · have hr := br_n c1 hr
                                  refine lv_iconst (v := (1 : Int32)) hx hb dL_closes_376 (by decide) ?_
                                  refine lv_goto (tgt := 381) hx hb dL_closes_377 (by decide) ?_
                                  have e1 := Option.some.inj hr
                                  subst e1
                                  exact hj381_46 _ _ _ hW (lv_sub hl [0, 1, 2, 3, 4, 5, 6, 7, 8, 9, 10, 11, 12, 13] rfl)
                              refine lv_if_eq (tgt := 369) hx hb dL_closes_352 (by decide) (fun c1 => ?_) (fun c1 => ?_)
                              · have hr := br_p c1 hr
                                exact hj369_47 _ _ _ hW (lv_sub hl [0, 1, 2, 3, 4, 5, 6, 7, 8, 9, 10, 11, 12, 13] rfl) hr
                              · have hr := br_n c1 hr
                                refine lv_aload hx hb dL_closes_355 (lv_at hl 6 rfl) ?_
                                refine lv_iconst (v := (2 : Int32)) hx hb dL_closes_357 (by decide) ?_
                                refine lv_iload hx hb dL_closes_358 (lv_at hl 13 rfl) ?_
                                refine lv_imul hx hb dL_closes_360 ?_
                                refine lv_iconst (v := (1 : Int32)) hx hb dL_closes_361 (by decide) ?_
                                refine lv_iadd hx hb dL_closes_362 ?_
                                obtain ⟨hn363, hr⟩ := chk_e hr
                                refine xiald hx hb hK hW.2.1 (k := 1) (t := 27) rfl (by decide) (by decide) rfl (n := 8) hn363 (jx := (ix (((2 : Int32) * x15_31) + (1 : Int32)))) rfl dL_closes_363 ?_
                                refine lv_ldc (v := (-2000000005 : Int32)) hx hb hown (hts _ (wm 3 rfl)) dL_closes_364 ?_
                                refine lv_icmp_eq (tgt := 403) hx hb dL_closes_366 (by decide) (fun c1 => ?_) (fun c1 => ?_)
                                · have hr := br_p c1 hr
                                  refine lv_iconst (v := (0 : Int32)) hx hb dL_closes_403 (by decide) ?_
                                  have e1 := Option.some.inj hr
                                  subst e1
                                  exact hj404_42 _ _ _ hW (lv_sub hl [0, 3, 4, 5, 6, 7, 8, 9, 10, 11, 12, 13] rfl)
                                · have hr := br_n c1 hr
                                  exact hj369_47 _ _ _ hW (lv_sub hl [0, 1, 2, 3, 4, 5, 6, 7, 8, 9, 10, 11, 12, 13] rfl) hr
                            refine lv_if_ne (tgt := 350) hx hb dL_closes_310 (by decide) (fun c1 => ?_) (fun c1 => ?_)
                            · have hr := br_n c1 hr
                              exact hj350_47 _ _ _ hW (lv_sub hl [0, 1, 2, 3, 4, 5, 6, 7, 8, 9, 10, 11, 12, 13] rfl) hr
                            · have hr := br_p c1 hr
                              refine lv_aload_n hx hb dL_closes_313 rfl (lv_at hl 9 rfl) ?_
                              refine lv_iload hx hb dL_closes_314 (lv_at hl 13 rfl) ?_
                              refine lv_iconst (v := (5 : Int32)) hx hb dL_closes_316 (by decide) ?_
                              obtain ⟨r_48, hc317, hr⟩ := ob1_e hr
                              refine lx_ki (va_runV (As := [.int x15_31, .int (5 : Int32)]) (rest := []) ⟨hx, hb, hml, hown, hts⟩ (c_X10_path l D cA ad_22 M_20 x15_31 (5 : Int32) hc317) (cwV 2 hts gL_closes_X10_path rfl rfl rfl (by decide +kernel) ⟨Nat.le_of_ble_eq_true rfl, Nat.le_of_ble_eq_true rfl⟩) (xpreV hK hW.1 (k := 224) rfl (by decide) rfl) rfl rfl hl.1 rfl (lv_room (Nat.le_of_ble_eq_true rfl)) dL_closes_317 ⟨Nat.le_of_ble_eq_true rfl, Nat.le_of_ble_eq_true rfl⟩) hW (fun H locs hW => ?_)
                              refine lv_aload hx hb dL_closes_320 (lv_at hl 6 rfl) ?_
                              refine lv_iconst (v := (2 : Int32)) hx hb dL_closes_322 (by decide) ?_
                              refine lv_iload hx hb dL_closes_323 (lv_at hl 13 rfl) ?_
                              refine lv_imul hx hb dL_closes_325 ?_
                              obtain ⟨hn326, hr⟩ := chk_e hr
                              refine xiald hx hb hK hW.2.1 (k := 1) (t := 27) rfl (by decide) (by decide) rfl (n := 8) hn326 (jx := (ix ((2 : Int32) * x15_31))) rfl dL_closes_326 ?_
                              refine lv_icmp_ne (tgt := 403) hx hb dL_closes_327 (by decide) (fun c1 => ?_) (fun c1 => ?_)
                              · have hr := br_n c1 hr
                                refine lv_iconst (v := (0 : Int32)) hx hb dL_closes_403 (by decide) ?_
                                have e1 := Option.some.inj hr
                                subst e1
                                exact hj404_42 _ _ _ hW (lv_sub hl [0, 3, 4, 5, 6, 7, 8, 9, 10, 11, 12, 13] rfl)
                              · have hr := br_p c1 hr
                                refine lv_aload_n hx hb dL_closes_330 rfl (lv_at hl 9 rfl) ?_
                                refine lv_iload hx hb dL_closes_331 (lv_at hl 13 rfl) ?_
                                refine lv_bipush (v := (7 : Int32)) hx hb dL_closes_333 (by decide) ?_
                                obtain ⟨r_49, hc335, hr⟩ := ob1_e hr
                                refine lx_ki (va_runV (As := [.int x15_31, .int (7 : Int32)]) (rest := []) ⟨hx, hb, hml, hown, hts⟩ (c_X10_path l D cA ad_22 M_20 x15_31 (7 : Int32) hc335) (cwV 2 hts gL_closes_X10_path rfl rfl rfl (by decide +kernel) ⟨Nat.le_of_ble_eq_true rfl, Nat.le_of_ble_eq_true rfl⟩) (xpreV hK hW.1 (k := 224) rfl (by decide) rfl) rfl rfl hl.1 rfl (lv_room (Nat.le_of_ble_eq_true rfl)) dL_closes_335 ⟨Nat.le_of_ble_eq_true rfl, Nat.le_of_ble_eq_true rfl⟩) hW (fun H locs hW => ?_)
                                refine lv_aload hx hb dL_closes_338 (lv_at hl 6 rfl) ?_
                                refine lv_iconst (v := (2 : Int32)) hx hb dL_closes_340 (by decide) ?_
                                refine lv_iload hx hb dL_closes_341 (lv_at hl 13 rfl) ?_
                                refine lv_imul hx hb dL_closes_343 ?_
                                refine lv_iconst (v := (1 : Int32)) hx hb dL_closes_344 (by decide) ?_
                                refine lv_iadd hx hb dL_closes_345 ?_
                                obtain ⟨hn346, hr⟩ := chk_e hr
                                refine xiald hx hb hK hW.2.1 (k := 1) (t := 27) rfl (by decide) (by decide) rfl (n := 8) hn346 (jx := (ix (((2 : Int32) * x15_31) + (1 : Int32)))) rfl dL_closes_346 ?_
                                refine lv_icmp_ne (tgt := 403) hx hb dL_closes_347 (by decide) (fun c1 => ?_) (fun c1 => ?_)
                                · have hr := br_n c1 hr
                                  refine lv_iconst (v := (0 : Int32)) hx hb dL_closes_403 (by decide) ?_
                                  have e1 := Option.some.inj hr
                                  subst e1
                                  exact hj404_42 _ _ _ hW (lv_sub hl [0, 3, 4, 5, 6, 7, 8, 9, 10, 11, 12, 13] rfl)
                                · have hr := br_p c1 hr
                                  exact hj350_47 _ _ _ hW (lv_sub hl [0, 1, 2, 3, 4, 5, 6, 7, 8, 9, 10, 11, 12, 13] rfl) hr
                        clear hr3
                        refine lv_icmp_ne (tgt := 304) hx hb dL_closes_297 (by decide) (fun c1 => ?_) (fun c1 => ?_)
                        · have hr := br_n c1 hr
                          refine lv_iconst (v := (0 : Int32)) hx hb dL_closes_304 (by decide) ?_
                          have e1 := Option.some.inj hr
                          subst e1
                          exact hj305_45 _ _ _ hW (lv_sub hl [0, 1, 2, 3, 4, 5, 6, 7, 8, 9, 10, 11, 12, 13] rfl)
                        · have hr := br_p c1 hr
                          refine lv_iconst (v := (1 : Int32)) hx hb dL_closes_300 (by decide) ?_
                          refine lv_goto (tgt := 305) hx hb dL_closes_301 (by decide) ?_
                          have e1 := Option.some.inj hr
                          subst e1
                          exact hj305_45 _ _ _ hW (lv_sub hl [0, 1, 2, 3, 4, 5, 6, 7, 8, 9, 10, 11, 12, 13] rfl)
                    clear hr3
                    refine lv_icmp_le (tgt := 277) hx hb dL_closes_270 (by decide) (fun c1 => ?_) (fun c1 => ?_)
                    · have hr := br_p c1 hr
                      refine lv_iconst (v := (0 : Int32)) hx hb dL_closes_277 (by decide) ?_
                      have e1 := Option.some.inj hr
                      subst e1
                      exact hj278_43 _ _ _ hW (lv_sub hl [0, 1, 2, 3, 4, 5, 6, 7, 8, 9, 10, 11, 12, 13] rfl)
                    · have hr := br_n c1 hr
                      refine lv_iconst (v := (1 : Int32)) hx hb dL_closes_273 (by decide) ?_
                      refine lv_goto (tgt := 278) hx hb dL_closes_274 (by decide) ?_
                      have e1 := Option.some.inj hr
                      subst e1
                      exact hj278_43 _ _ _ hW (lv_sub hl [0, 1, 2, 3, 4, 5, 6, 7, 8, 9, 10, 11, 12, 13] rfl)
                clear hr3
                refine lv_icmp_ne (tgt := 235) hx hb dL_closes_228 (by decide) (fun c1 => ?_) (fun c1 => ?_)
                · have hr := br_n c1 hr
                  refine lv_iconst (v := (0 : Int32)) hx hb dL_closes_235 (by decide) ?_
                  have e1 := Option.some.inj hr
                  subst e1
                  exact hj236_39 _ _ _ hW (lv_sub hl [0, 1, 2, 3, 4, 5, 6, 7, 8, 9, 10, 11] rfl)
                · have hr := br_p c1 hr
                  refine lv_iconst (v := (1 : Int32)) hx hb dL_closes_231 (by decide) ?_
                  refine lv_goto (tgt := 236) hx hb dL_closes_232 (by decide) ?_
                  have e1 := Option.some.inj hr
                  subst e1
                  exact hj236_39 _ _ _ hW (lv_sub hl [0, 1, 2, 3, 4, 5, 6, 7, 8, 9, 10, 11] rfl)
              clear hr3
              refine lv_icmp_ne (tgt := 213) hx hb dL_closes_206 (by decide) (fun c1 => ?_) (fun c1 => ?_)
              · have hr := br_n c1 hr
                refine lv_iconst (v := (0 : Int32)) hx hb dL_closes_213 (by decide) ?_
                have e1 := Option.some.inj hr
                subst e1
                exact hj214_37 _ _ _ hW (lv_sub hl [0, 1, 2, 3, 4, 5, 6, 7, 8, 9, 11] rfl)
              · have hr := br_p c1 hr
                refine lv_iconst (v := (1 : Int32)) hx hb dL_closes_209 (by decide) ?_
                refine lv_goto (tgt := 214) hx hb dL_closes_210 (by decide) ?_
                have e1 := Option.some.inj hr
                subst e1
                exact hj214_37 _ _ _ hW (lv_sub hl [0, 1, 2, 3, 4, 5, 6, 7, 8, 9, 11] rfl)
      obtain ⟨x11_32, x12_33, x13_34, x14_35, hr, hr3⟩ := ob4_e hr
      refine hL183_31 1000 (0 : Int32) (0 : Int32) (0 : Int32) y_23 (0 : Int32) _ _ _ x11_32 x12_33 x13_34 x14_35 hW (lv_sub hl [5, 6, 7, 8, 9, 10, 11, 4, 3, 2, 1, 0] rfl) hr (fun H locs ls hW hl => ?_)
      clear hr
      have hr := hr3
      refine lv_iload hx hb dL_closes_485 (lv_at hl 0 rfl) ?_
      refine lv_ldc (v := (-2000000005 : Int32)) hx hb hown (hts _ (wm 3 rfl)) dL_closes_487 ?_
      obtain ⟨y_55, hr, hr3⟩ := ob1_e hr
      have hj519_55 : ∀ (H : Heap) (locs : List Loc) (ls : Array Slot), lx_W D cA ad_22 ad2 M_20 N_11 (AZ ad s.heap.size) s.heap H locs → lv_has ls 19 [(10, .int r_21), (8, .long r_6), (6, .long r_5), (0, .ref (ad_22 224)), (11, .int x11_32), (12, .int x12_33), (13, .int x13_34), (14, .int x14_35)] → W p l e (headSpec wsL_closes { frames := 6, cells := 2, slots := 12, locals := 144 }).room s m args below meth c H locs 2 12 (MQ below (QiZ D cA ad s.heap.size r M') args s 2 12 (AZ ad s.heap.size)) (F0 m 519 ls [.long y_55]) := by
        intro H locs ls hW hl
        have hr := hr3
        refine lv_lstore (lv' := [(15, .long y_55), (10, .int r_21), (8, .long r_6), (6, .long r_5), (0, .ref (ad_22 224)), (11, .int x11_32), (12, .int x12_33), (13, .int x13_34), (14, .int x14_35)]) hx hb dL_closes_519 hl (by decide) rfl (fun ls hl => ?_)
        refine lv_iload hx hb dL_closes_521 (lv_at hl 8 rfl) ?_
        refine lv_if_eq (tgt := 628) hx hb dL_closes_523 (by decide) (fun c1 => ?_) (fun c1 => ?_)
        · have hr := br_p c1 hr
          refine lv_iconst (v := (0 : Int32)) hx hb dL_closes_628 (by decide) ?_
          obtain ⟨e1, e2⟩ := Prod.mk.inj (Option.some.inj hr)
          rw [← e1, ← e2]
          exact zzret hx hb hr0 hlocks hW.1 had (by decide) dL_closes_629
        · have hr := br_n c1 hr
          refine lv_iload hx hb dL_closes_526 (lv_at hl 7 rfl) ?_
          have hj574_61 : ∀ (H : Heap) (locs : List Loc) (ls : Array Slot), lx_W D cA ad_22 ad2 M_20 N_11 (AZ ad s.heap.size) s.heap H locs → lv_has ls 19 [(15, .long y_55), (8, .long r_6), (6, .long r_5), (0, .ref (ad_22 224))] → f_L_closes_J574 r_5 r_6 M_20 y_55 = some (r, M') → W p l e (headSpec wsL_closes { frames := 6, cells := 2, slots := 12, locals := 144 }).room s m args below meth c H locs 2 12 (MQ below (QiZ D cA ad s.heap.size r M') args s 2 12 (AZ ad s.heap.size)) (F0 m 574 ls []) := by
            intro H locs ls hW hl hr
            unfold f_L_closes_J574 at hr
            refine lv_aload_n hx hb dL_closes_574 rfl (lv_at hl 3 rfl) ?_
            refine lv_iconst (v := (0 : Int32)) hx hb dL_closes_575 (by decide) ?_
            obtain ⟨r_58, hc576, hr⟩ := ob1_e hr
            refine lx_kl (va_runV (As := [.int (0 : Int32)]) (rest := []) ⟨hx, hb, hml, hown, hts⟩ (c_X10_volume l D cA ad_22 M_20 (0 : Int32) hc576) (cwV 1 hts gL_closes_X10_volume rfl rfl rfl (by decide +kernel) ⟨Nat.le_of_ble_eq_true rfl, Nat.le_of_ble_eq_true rfl⟩) (xpreV hK hW.1 (k := 224) rfl (by decide) rfl) rfl rfl hl.1 rfl (lv_room (Nat.le_of_ble_eq_true rfl)) dL_closes_576 ⟨Nat.le_of_ble_eq_true rfl, Nat.le_of_ble_eq_true rfl⟩) hW (fun H locs hW => ?_)
            refine lv_lload hx hb dL_closes_579 (lv_at hl 2 rfl) ?_
            refine lv_lload hx hb dL_closes_581 (lv_at hl 0 rfl) ?_
            refine lv_lconst (v := (0 : Int64)) hx hb dL_closes_583 (by decide) ?_
            obtain ⟨y_59, hr, hr3⟩ := ob1_e hr
            have hj594_59 : ∀ (H : Heap) (locs : List Loc) (ls : Array Slot), lx_W D cA ad_22 ad2 M_20 N_11 (AZ ad s.heap.size) s.heap H locs → lv_has ls 19 [(15, .long y_55), (8, .long r_6), (0, .ref (ad_22 224))] → W p l e (headSpec wsL_closes { frames := 6, cells := 2, slots := 12, locals := 144 }).room s m args below meth c H locs 2 12 (MQ below (QiZ D cA ad s.heap.size r M') args s 2 12 (AZ ad s.heap.size)) (F0 m 594 ls [.long y_59, .long r_5, .long r_58]) := by
              intro H locs ls hW hl
              have hr := hr3
              refine lv_ladd hx hb dL_closes_594 ?_
              refine xlc_ne (tgt := 628) hx hb dL_closes_595 dL_closes_596 (by decide) (fun c1 => ?_) (fun c1 => ?_)
              · have hr := br_n c1 hr
                refine lv_iconst (v := (0 : Int32)) hx hb dL_closes_628 (by decide) ?_
                obtain ⟨e1, e2⟩ := Prod.mk.inj (Option.some.inj hr)
                rw [← e1, ← e2]
                exact zzret hx hb hr0 hlocks hW.1 had (by decide) dL_closes_629
              · have hr := br_p c1 hr
                refine lv_aload_n hx hb dL_closes_599 rfl (lv_at hl 2 rfl) ?_
                refine lv_iconst (v := (1 : Int32)) hx hb dL_closes_600 (by decide) ?_
                obtain ⟨r_60, hc601, hr⟩ := ob1_e hr
                refine lx_kl (va_runV (As := [.int (1 : Int32)]) (rest := []) ⟨hx, hb, hml, hown, hts⟩ (c_X10_volume l D cA ad_22 M_20 (1 : Int32) hc601) (cwV 1 hts gL_closes_X10_volume rfl rfl rfl (by decide +kernel) ⟨Nat.le_of_ble_eq_true rfl, Nat.le_of_ble_eq_true rfl⟩) (xpreV hK hW.1 (k := 224) rfl (by decide) rfl) rfl rfl hl.1 rfl (lv_room (Nat.le_of_ble_eq_true rfl)) dL_closes_601 ⟨Nat.le_of_ble_eq_true rfl, Nat.le_of_ble_eq_true rfl⟩) hW (fun H locs hW => ?_)
                refine lv_lload hx hb dL_closes_604 (lv_at hl 1 rfl) ?_
                refine lv_lload hx hb dL_closes_606 (lv_at hl 0 rfl) ?_
                refine lv_lconst (v := (0 : Int64)) hx hb dL_closes_608 (by decide) ?_
                obtain ⟨y_61, hr, hr3⟩ := ob1_e hr
                have hj619_61 : ∀ (H : Heap) (locs : List Loc) (ls : Array Slot), lx_W D cA ad_22 ad2 M_20 N_11 (AZ ad s.heap.size) s.heap H locs → lv_has ls 19 [] → W p l e (headSpec wsL_closes { frames := 6, cells := 2, slots := 12, locals := 144 }).room s m args below meth c H locs 2 12 (MQ below (QiZ D cA ad s.heap.size r M') args s 2 12 (AZ ad s.heap.size)) (F0 m 619 ls [.long y_61, .long r_6, .long r_60]) := by
                  intro H locs ls hW hl
                  have hr := hr3
                  refine lv_lsub hx hb dL_closes_619 ?_
                  refine xlc_ne (tgt := 628) hx hb dL_closes_620 dL_closes_621 (by decide) (fun c1 => ?_) (fun c1 => ?_)
                  · have hr := br_n c1 hr
                    refine lv_iconst (v := (0 : Int32)) hx hb dL_closes_628 (by decide) ?_
                    obtain ⟨e1, e2⟩ := Prod.mk.inj (Option.some.inj hr)
                    rw [← e1, ← e2]
                    exact zzret hx hb hr0 hlocks hW.1 had (by decide) dL_closes_629
                  · have hr := br_p c1 hr
                    refine lv_iconst (v := (1 : Int32)) hx hb dL_closes_624 (by decide) ?_
                    refine lv_goto (tgt := 629) hx hb dL_closes_625 (by decide) ?_
                    obtain ⟨e1, e2⟩ := Prod.mk.inj (Option.some.inj hr)
                    rw [← e1, ← e2]
                    exact zzret hx hb hr0 hlocks hW.1 had (by decide) dL_closes_629
                clear hr3
                refine xlc_ge (tgt := 618) hx hb dL_closes_609 dL_closes_610 (by decide) (fun c1 => ?_) (fun c1 => ?_)
                · have hr := br_p c1 hr
                  refine lv_lconst (v := (0 : Int64)) hx hb dL_closes_618 (by decide) ?_
                  have e1 := Option.some.inj hr
                  subst e1
                  exact hj619_61 _ _ _ hW (lv_sub hl [] rfl)
                · have hr := br_n c1 hr
                  refine lv_lload hx hb dL_closes_613 (lv_at hl 0 rfl) ?_
                  refine lv_goto (tgt := 619) hx hb dL_closes_615 (by decide) ?_
                  have e1 := Option.some.inj hr
                  subst e1
                  exact hj619_61 _ _ _ hW (lv_sub hl [] rfl)
            clear hr3
            refine xlc_le (tgt := 593) hx hb dL_closes_584 dL_closes_585 (by decide) (fun c1 => ?_) (fun c1 => ?_)
            · have hr := br_p c1 hr
              refine lv_lconst (v := (0 : Int64)) hx hb dL_closes_593 (by decide) ?_
              have e1 := Option.some.inj hr
              subst e1
              exact hj594_59 _ _ _ hW (lv_sub hl [0, 1, 3] rfl)
            · have hr := br_n c1 hr
              refine lv_lload hx hb dL_closes_588 (lv_at hl 0 rfl) ?_
              refine lv_goto (tgt := 594) hx hb dL_closes_590 (by decide) ?_
              have e1 := Option.some.inj hr
              subst e1
              exact hj594_59 _ _ _ hW (lv_sub hl [0, 1, 3] rfl)
          refine lv_if_ne (tgt := 552) hx hb dL_closes_528 (by decide) (fun c1 => ?_) (fun c1 => ?_)
          · have hr := br_n c1 hr
            refine lv_aload_n hx hb dL_closes_552 rfl (lv_at hl 4 rfl) ?_
            refine lv_iconst (v := (0 : Int32)) hx hb dL_closes_553 (by decide) ?_
            refine lv_iconst (v := (1 : Int32)) hx hb dL_closes_554 (by decide) ?_
            obtain ⟨r_62, hc555, hr⟩ := ob1_e hr
            refine lx_ki (va_runV (As := [.int (0 : Int32), .int (1 : Int32)]) (rest := []) ⟨hx, hb, hml, hown, hts⟩ (c_X10_round l D cA ad_22 M_20 (0 : Int32) (1 : Int32) hc555) (cwV 2 hts gL_closes_X10_round rfl rfl rfl (by decide +kernel) ⟨Nat.le_of_ble_eq_true rfl, Nat.le_of_ble_eq_true rfl⟩) (xpreV hK hW.1 (k := 224) rfl (by decide) rfl) rfl rfl hl.1 rfl (lv_room (Nat.le_of_ble_eq_true rfl)) dL_closes_555 ⟨Nat.le_of_ble_eq_true rfl, Nat.le_of_ble_eq_true rfl⟩) hW (fun H locs hW => ?_)
            refine lv_iload hx hb dL_closes_558 (lv_at hl 5 rfl) ?_
            refine lv_icmp_lt (tgt := 628) hx hb dL_closes_560 (by decide) (fun c1 => ?_) (fun c1 => ?_)
            · have hr := br_p c1 hr
              refine lv_iconst (v := (0 : Int32)) hx hb dL_closes_628 (by decide) ?_
              obtain ⟨e1, e2⟩ := Prod.mk.inj (Option.some.inj hr)
              rw [← e1, ← e2]
              exact zzret hx hb hr0 hlocks hW.1 had (by decide) dL_closes_629
            · have hr := br_n c1 hr
              refine lv_aload_n hx hb dL_closes_563 rfl (lv_at hl 4 rfl) ?_
              refine lv_iconst (v := (0 : Int32)) hx hb dL_closes_564 (by decide) ?_
              refine lv_iconst (v := (1 : Int32)) hx hb dL_closes_565 (by decide) ?_
              obtain ⟨r_63, hc566, hr⟩ := ob1_e hr
              refine lx_ki (va_runV (As := [.int (0 : Int32), .int (1 : Int32)]) (rest := []) ⟨hx, hb, hml, hown, hts⟩ (c_X10_round l D cA ad_22 M_20 (0 : Int32) (1 : Int32) hc566) (cwV 2 hts gL_closes_X10_round rfl rfl rfl (by decide +kernel) ⟨Nat.le_of_ble_eq_true rfl, Nat.le_of_ble_eq_true rfl⟩) (xpreV hK hW.1 (k := 224) rfl (by decide) rfl) rfl rfl hl.1 rfl (lv_room (Nat.le_of_ble_eq_true rfl)) dL_closes_566 ⟨Nat.le_of_ble_eq_true rfl, Nat.le_of_ble_eq_true rfl⟩) hW (fun H locs hW => ?_)
              refine lv_iload hx hb dL_closes_569 (lv_at hl 6 rfl) ?_
              refine lv_icmp_gt (tgt := 628) hx hb dL_closes_571 (by decide) (fun c1 => ?_) (fun c1 => ?_)
              · have hr := br_p c1 hr
                refine lv_iconst (v := (0 : Int32)) hx hb dL_closes_628 (by decide) ?_
                obtain ⟨e1, e2⟩ := Prod.mk.inj (Option.some.inj hr)
                rw [← e1, ← e2]
                exact zzret hx hb hr0 hlocks hW.1 had (by decide) dL_closes_629
              · have hr := br_n c1 hr
                exact hj574_61 _ _ _ hW (lv_sub hl [0, 2, 3, 4] rfl) hr
          · have hr := br_p c1 hr
            refine lv_iload hx hb dL_closes_531 (lv_at hl 1 rfl) ?_
            refine lv_ldc (v := (-2000000005 : Int32)) hx hb hown (hts _ (wm 3 rfl)) dL_closes_533 ?_
            refine lv_icmp_ne (tgt := 628) hx hb dL_closes_535 (by decide) (fun c1 => ?_) (fun c1 => ?_)
            · have hr := br_n c1 hr
              refine lv_iconst (v := (0 : Int32)) hx hb dL_closes_628 (by decide) ?_
              obtain ⟨e1, e2⟩ := Prod.mk.inj (Option.some.inj hr)
              rw [← e1, ← e2]
              exact zzret hx hb hr0 hlocks hW.1 had (by decide) dL_closes_629
            · have hr := br_p c1 hr
              refine lv_aload_n hx hb dL_closes_538 rfl (lv_at hl 4 rfl) ?_
              refine lv_iconst (v := (0 : Int32)) hx hb dL_closes_539 (by decide) ?_
              refine lv_iconst (v := (1 : Int32)) hx hb dL_closes_540 (by decide) ?_
              obtain ⟨r_64, hc541, hr⟩ := ob1_e hr
              refine lx_ki (va_runV (As := [.int (0 : Int32), .int (1 : Int32)]) (rest := []) ⟨hx, hb, hml, hown, hts⟩ (c_X10_round l D cA ad_22 M_20 (0 : Int32) (1 : Int32) hc541) (cwV 2 hts gL_closes_X10_round rfl rfl rfl (by decide +kernel) ⟨Nat.le_of_ble_eq_true rfl, Nat.le_of_ble_eq_true rfl⟩) (xpreV hK hW.1 (k := 224) rfl (by decide) rfl) rfl rfl hl.1 rfl (lv_room (Nat.le_of_ble_eq_true rfl)) dL_closes_541 ⟨Nat.le_of_ble_eq_true rfl, Nat.le_of_ble_eq_true rfl⟩) hW (fun H locs hW => ?_)
              refine lv_ldc (v := (-2000000005 : Int32)) hx hb hown (hts _ (wm 3 rfl)) dL_closes_544 ?_
              refine lv_icmp_ne (tgt := 628) hx hb dL_closes_546 (by decide) (fun c1 => ?_) (fun c1 => ?_)
              · have hr := br_n c1 hr
                refine lv_iconst (v := (0 : Int32)) hx hb dL_closes_628 (by decide) ?_
                obtain ⟨e1, e2⟩ := Prod.mk.inj (Option.some.inj hr)
                rw [← e1, ← e2]
                exact zzret hx hb hr0 hlocks hW.1 had (by decide) dL_closes_629
              · have hr := br_p c1 hr
                refine lv_goto (tgt := 574) hx hb dL_closes_549 (by decide) ?_
                exact hj574_61 _ _ _ hW (lv_sub hl [0, 2, 3, 4] rfl) hr
      clear hr3
      refine lv_icmp_ne (tgt := 496) hx hb dL_closes_489 (by decide) (fun c1 => ?_) (fun c1 => ?_)
      · have hr := br_n c1 hr
        refine lv_iload hx hb dL_closes_496 (lv_at hl 0 rfl) ?_
        refine lv_i2l hx hb dL_closes_498 rfl ?_
        refine lv_aload_n hx hb dL_closes_499 rfl (lv_at hl 3 rfl) ?_
        refine lv_bipush (v := (13 : Int32)) hx hb dL_closes_500 (by decide) ?_
        obtain ⟨r_56, hc502, hr⟩ := ob1_e hr
        refine lx_ki (va_runV (As := [.int (13 : Int32)]) (rest := [.long (Int32.toInt64 r_21)]) ⟨hx, hb, hml, hown, hts⟩ (c_X10_total l D cA ad_22 M_20 (13 : Int32) hc502) (cwV 1 hts gL_closes_X10_total rfl rfl rfl (by decide +kernel) ⟨Nat.le_of_ble_eq_true rfl, Nat.le_of_ble_eq_true rfl⟩) (xpreV hK hW.1 (k := 224) rfl (by decide) rfl) rfl rfl hl.1 rfl (lv_room (Nat.le_of_ble_eq_true rfl)) dL_closes_502 ⟨Nat.le_of_ble_eq_true rfl, Nat.le_of_ble_eq_true rfl⟩) hW (fun H locs hW => ?_)
        refine lv_i2l hx hb dL_closes_505 rfl ?_
        refine lv_lmul hx hb dL_closes_506 ?_
        refine lv_aload_n hx hb dL_closes_507 rfl (lv_at hl 3 rfl) ?_
        refine lv_bipush (v := (14 : Int32)) hx hb dL_closes_508 (by decide) ?_
        obtain ⟨r_57, hc510, hr⟩ := ob1_e hr
        refine lx_ki (va_runV (As := [.int (14 : Int32)]) (rest := [.long ((Int32.toInt64 r_21) * (Int32.toInt64 r_56))]) ⟨hx, hb, hml, hown, hts⟩ (c_X10_total l D cA ad_22 M_20 (14 : Int32) hc510) (cwV 1 hts gL_closes_X10_total rfl rfl rfl (by decide +kernel) ⟨Nat.le_of_ble_eq_true rfl, Nat.le_of_ble_eq_true rfl⟩) (xpreV hK hW.1 (k := 224) rfl (by decide) rfl) rfl rfl hl.1 rfl (lv_room (Nat.le_of_ble_eq_true rfl)) dL_closes_510 ⟨Nat.le_of_ble_eq_true rfl, Nat.le_of_ble_eq_true rfl⟩) hW (fun H locs hW => ?_)
        refine lv_i2l hx hb dL_closes_513 rfl ?_
        refine lv_lmul hx hb dL_closes_514 ?_
        refine lv_ldc2 (v := (1000 : Int64)) hx hb hown (hts _ (wm 4 rfl)) dL_closes_515 ?_
        refine lv_ldiv hx hb dL_closes_518 (by decide) ?_
        have e1 := Option.some.inj hr
        subst e1
        exact hj519_55 _ _ _ hW (lv_sub hl [0, 1, 2, 3, 4, 5, 6, 7] rfl)
      · have hr := br_p c1 hr
        refine lv_lconst (v := (0 : Int64)) hx hb dL_closes_492 (by decide) ?_
        refine lv_goto (tgt := 519) hx hb dL_closes_493 (by decide) ?_
        have e1 := Option.some.inj hr
        subst e1
        exact hj519_55 _ _ _ hW (lv_sub hl [0, 1, 2, 3, 4, 5, 6, 7] rfl)
    clear hr3
    refine lv_icmp_ne (tgt := 177) hx hb dL_closes_139 (by decide) (fun c1 => ?_) (fun c1 => ?_)
    · have hr := br_n c1 hr
      refine lv_iconst (v := (0 : Int32)) hx hb dL_closes_177 (by decide) ?_
      have e1 := Option.some.inj hr
      subst e1
      exact hj178_23 _ _ _ hW (lv_sub hl [0, 1, 2, 3, 4, 5, 7, 8, 10, 11] rfl)
    · have hr := br_p c1 hr
      refine lv_aload_n hx hb dL_closes_142 rfl (lv_at hl 11 rfl) ?_
      refine lv_iconst (v := (3 : Int32)) hx hb dL_closes_143 (by decide) ?_
      obtain ⟨r_24, hc144, hr⟩ := ob1_e hr
      refine lx_ki (va_runV (As := [.int (3 : Int32)]) (rest := []) ⟨hx, hb, hml, hown, hts⟩ (c_X10_total l D cA ad_22 M_20 (3 : Int32) hc144) (cwV 1 hts gL_closes_X10_total rfl rfl rfl (by decide +kernel) ⟨Nat.le_of_ble_eq_true rfl, Nat.le_of_ble_eq_true rfl⟩) (xpreV hK hW.1 (k := 224) rfl (by decide) rfl) rfl rfl hl.1 rfl (lv_room (Nat.le_of_ble_eq_true rfl)) dL_closes_144 ⟨Nat.le_of_ble_eq_true rfl, Nat.le_of_ble_eq_true rfl⟩) hW (fun H locs hW => ?_)
      refine lv_iload hx hb dL_closes_147 (lv_at hl 6 rfl) ?_
      refine lv_iconst (v := (1 : Int32)) hx hb dL_closes_149 (by decide) ?_
      refine lv_iadd hx hb dL_closes_150 ?_
      refine lv_icmp_ne (tgt := 177) hx hb dL_closes_151 (by decide) (fun c1 => ?_) (fun c1 => ?_)
      · have hr := br_n c1 hr
        refine lv_iconst (v := (0 : Int32)) hx hb dL_closes_177 (by decide) ?_
        have e1 := Option.some.inj hr
        subst e1
        exact hj178_23 _ _ _ hW (lv_sub hl [0, 1, 2, 3, 4, 5, 7, 8, 10, 11] rfl)
      · have hr := br_p c1 hr
        refine lv_aload_n hx hb dL_closes_154 rfl (lv_at hl 11 rfl) ?_
        refine lv_iconst (v := (2 : Int32)) hx hb dL_closes_155 (by decide) ?_
        obtain ⟨r_25, hc156, hr⟩ := ob1_e hr
        refine lx_ki (va_runV (As := [.int (2 : Int32)]) (rest := []) ⟨hx, hb, hml, hown, hts⟩ (c_X10_total l D cA ad_22 M_20 (2 : Int32) hc156) (cwV 1 hts gL_closes_X10_total rfl rfl rfl (by decide +kernel) ⟨Nat.le_of_ble_eq_true rfl, Nat.le_of_ble_eq_true rfl⟩) (xpreV hK hW.1 (k := 224) rfl (by decide) rfl) rfl rfl hl.1 rfl (lv_room (Nat.le_of_ble_eq_true rfl)) dL_closes_156 ⟨Nat.le_of_ble_eq_true rfl, Nat.le_of_ble_eq_true rfl⟩) hW (fun H locs hW => ?_)
        refine lv_if_ne (tgt := 177) hx hb dL_closes_159 (by decide) (fun c1 => ?_) (fun c1 => ?_)
        · have hr := br_n c1 hr
          refine lv_iconst (v := (0 : Int32)) hx hb dL_closes_177 (by decide) ?_
          have e1 := Option.some.inj hr
          subst e1
          exact hj178_23 _ _ _ hW (lv_sub hl [0, 1, 2, 3, 4, 5, 7, 8, 10, 11] rfl)
        · have hr := br_p c1 hr
          refine lv_aload_n hx hb dL_closes_162 rfl (lv_at hl 11 rfl) ?_
          refine lv_iconst (v := (0 : Int32)) hx hb dL_closes_163 (by decide) ?_
          refine lv_iconst (v := (0 : Int32)) hx hb dL_closes_164 (by decide) ?_
          obtain ⟨r_26, hc165, hr⟩ := ob1_e hr
          refine lx_ki (va_runV (As := [.int (0 : Int32), .int (0 : Int32)]) (rest := []) ⟨hx, hb, hml, hown, hts⟩ (c_X10_round l D cA ad_22 M_20 (0 : Int32) (0 : Int32) hc165) (cwV 2 hts gL_closes_X10_round rfl rfl rfl (by decide +kernel) ⟨Nat.le_of_ble_eq_true rfl, Nat.le_of_ble_eq_true rfl⟩) (xpreV hK hW.1 (k := 224) rfl (by decide) rfl) rfl rfl hl.1 rfl (lv_room (Nat.le_of_ble_eq_true rfl)) dL_closes_165 ⟨Nat.le_of_ble_eq_true rfl, Nat.le_of_ble_eq_true rfl⟩) hW (fun H locs hW => ?_)
          refine lv_iload hx hb dL_closes_168 (lv_at hl 3 rfl) ?_
          refine lv_icmp_ne (tgt := 177) hx hb dL_closes_170 (by decide) (fun c1 => ?_) (fun c1 => ?_)
          · have hr := br_n c1 hr
            refine lv_iconst (v := (0 : Int32)) hx hb dL_closes_177 (by decide) ?_
            have e1 := Option.some.inj hr
            subst e1
            exact hj178_23 _ _ _ hW (lv_sub hl [0, 1, 2, 3, 4, 5, 7, 8, 10, 11] rfl)
          · have hr := br_p c1 hr
            refine lv_iconst (v := (1 : Int32)) hx hb dL_closes_173 (by decide) ?_
            refine lv_goto (tgt := 178) hx hb dL_closes_174 (by decide) ?_
            have e1 := Option.some.inj hr
            subst e1
            exact hj178_23 _ _ _ hW (lv_sub hl [0, 1, 2, 3, 4, 5, 7, 8, 10, 11] rfl)
  · have hr := br_p c1 hr
    refine lv_iload_n hx hb dL_closes_111 rfl (lv_at hl 7 rfl) ?_
    refine lv_if_ne (tgt := 125) hx hb dL_closes_112 (by decide) (fun c1 => ?_) (fun c1 => ?_)
    · have hr := br_n c1 hr
      refine lv_iconst (v := (0 : Int32)) hx hb dL_closes_125 (by decide) ?_
      obtain ⟨e1, e2⟩ := Prod.mk.inj (Option.some.inj hr)
      rw [← e1, ← e2]
      exact zzret hx hb hr0 hlocks hW.1 had (by decide) dL_closes_126
    · have hr := br_p c1 hr
      refine lv_iload_n hx hb dL_closes_115 rfl (lv_at hl 6 rfl) ?_
      refine lv_ldc (v := (-2000000003 : Int32)) hx hb hown (hts _ (wm 2 rfl)) dL_closes_116 ?_
      refine lv_icmp_ne (tgt := 125) hx hb dL_closes_118 (by decide) (fun c1 => ?_) (fun c1 => ?_)
      · have hr := br_n c1 hr
        refine lv_iconst (v := (0 : Int32)) hx hb dL_closes_125 (by decide) ?_
        obtain ⟨e1, e2⟩ := Prod.mk.inj (Option.some.inj hr)
        rw [← e1, ← e2]
        exact zzret hx hb hr0 hlocks hW.1 had (by decide) dL_closes_126
      · have hr := br_p c1 hr
        refine lv_iconst (v := (1 : Int32)) hx hb dL_closes_121 (by decide) ?_
        refine lv_goto (tgt := 126) hx hb dL_closes_122 (by decide) ?_
        obtain ⟨e1, e2⟩ := Prod.mk.inj (Option.some.inj hr)
        rw [← e1, ← e2]
        exact zzret hx hb hr0 hlocks hW.1 had (by decide) dL_closes_126

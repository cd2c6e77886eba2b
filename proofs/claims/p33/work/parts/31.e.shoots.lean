/-! THE LAW: shoots, by gen_lawm.py -/
set_option maxHeartbeats 8000000 in
set_option maxRecDepth 100000 in
theorem c_L_shoots (l : Launch) (D : va_G) (cA : Nat → ClassId) (ad : Nat → Nat) (M : Mm) (x1 : Int32) (x2 : Int32) (x3 : Int32) {r : Int32} {M' : Mm} (hr : f_L_shoots x1 x2 x3 M = some (r, M')) : Met l yL_shoots wsL_shoots ({ frames := 5, cells := 0, slots := 0, locals := 149 }) (PcX D true cA ad M [.ref (ad 224), .int x1, .int x2, .int x3]) (QiX true D true cA ad r M') 0 0 (AX true ad) := by
  refine Met.ofW (cc := cL_shoots) (maxL := 15) (ret := (some .boolean)) (by decide) rfl ?_
  intro p e s m args below meth c s₁ B hml hv
  obtain ⟨hav, hP0, hK⟩ := hv
  have hx := B.exec
  have hb := B.bytes
  have hr0 := B.returns
  have hts := atoms_spec (ws := wsL_shoots) B.pre
  have hown : s.vm.findClass RL = some m.cls := findClass_of_methodNamed B.named
  have hlocks := B.notSynchronized
  have hW := xstart hP0
  have hl := lv_entry ([.ref (ad 224), .int x1, .int x2, .int x3]) (n := 15) (Nat.le_of_ble_eq_true rfl)
  have hef := lg_entry_eq m ([.ref (ad 224), .int x1, .int x2, .int x3]) 15
  rw [← hav] at hef
  rw [hef]
  clear hef
  generalize (lg_sl ([.ref (ad 224), .int x1, .int x2, .int x3]) ++ List.replicate (15 - (lg_sl ([.ref (ad 224), .int x1, .int x2, .int x3])).length) Slot.unset).toArray = ls at hl ⊢
  have hl : lv_has ls 15 [(0, .ref (ad 224)), (1, .int x1), (2, .int x2), (3, .int x3)] := hl
  clear hP0
  unfold f_L_shoots at hr
  refine lv_iload_n hx hb dL_shoots_0 rfl (lv_at hl 3 rfl) ?_
  refine lv_sipush (v := (7001 : Int32)) hx hb dL_shoots_1 (by decide) ?_
  obtain ⟨r_1, hc4, hr⟩ := ob1_e hr
  refine xk_i (va_runS (As := [.int x3, .int (7001 : Int32)]) (rest := []) ⟨hx, hb, hml, hown, hts⟩ (c_L_low l D cA ad M x3 (7001 : Int32) hc4) (va_cwS 2 hts gL_shoots_L_low rfl rfl rfl (by decide +kernel) ⟨Nat.le_of_ble_eq_true rfl, Nat.le_of_ble_eq_true rfl⟩) (xpreS hK hW) rfl rfl hl.1 rfl (lv_room (Nat.le_of_ble_eq_true rfl)) dL_shoots_4 ⟨Nat.le_of_ble_eq_true rfl, Nat.le_of_ble_eq_true rfl⟩) hW (fun H locs hW => ?_)
  refine lv_sipush (v := (3500 : Int32)) hx hb dL_shoots_7 (by decide) ?_
  refine lv_isub hx hb dL_shoots_10 ?_
  obtain ⟨x4_2, ex4_2, hr⟩ := lt1_e hr
  rw [← ex4_2]
  refine lv_istore (lv' := [(4, .int x4_2), (0, .ref (ad 224)), (1, .int x1), (2, .int x2), (3, .int x3)]) hx hb dL_shoots_11 hl (by decide) rfl (fun ls hl => ?_)
  refine lv_sipush (v := (1450 : Int32)) hx hb dL_shoots_13 (by decide) ?_
  refine lv_iload_n hx hb dL_shoots_16 rfl (lv_at hl 3 rfl) ?_
  refine lv_bipush (v := (40 : Int32)) hx hb dL_shoots_17 (by decide) ?_
  obtain ⟨r_3, hc19, hr⟩ := ob1_e hr
  refine xk_i (va_runS (As := [.int x2, .int (40 : Int32)]) (rest := [.int (1450 : Int32)]) ⟨hx, hb, hml, hown, hts⟩ (c_L_low l D cA ad M x2 (40 : Int32) hc19) (va_cwS 2 hts gL_shoots_L_low rfl rfl rfl (by decide +kernel) ⟨Nat.le_of_ble_eq_true rfl, Nat.le_of_ble_eq_true rfl⟩) (xpreS hK hW) rfl rfl hl.1 rfl (lv_room (Nat.le_of_ble_eq_true rfl)) dL_shoots_19 ⟨Nat.le_of_ble_eq_true rfl, Nat.le_of_ble_eq_true rfl⟩) hW (fun H locs hW => ?_)
  refine lv_iadd hx hb dL_shoots_22 ?_
  obtain ⟨x5_4, ex5_4, hr⟩ := lt1_e hr
  rw [← ex5_4]
  refine lv_istore (lv' := [(5, .int x5_4), (4, .int x4_2), (0, .ref (ad 224)), (1, .int x1), (2, .int x2), (3, .int x3)]) hx hb dL_shoots_23 hl (by decide) rfl (fun ls hl => ?_)
  refine lv_aload_n hx hb dL_shoots_25 rfl (lv_at hl 2 rfl) ?_
  refine lv_iload_n hx hb dL_shoots_26 rfl (lv_at hl 3 rfl) ?_
  refine lv_iload hx hb dL_shoots_27 (lv_at hl 0 rfl) ?_
  refine lv_iload hx hb dL_shoots_29 (lv_at hl 1 rfl) ?_
  refine lv_iconst (v := (0 : Int32)) hx hb dL_shoots_31 (by decide) ?_
  obtain ⟨r_5, hc32, hr⟩ := ob1_e hr
  refine xk_i (va_runV (As := [.int x1, .int x5_4, .int x4_2, .int (0 : Int32)]) (rest := []) ⟨hx, hb, hml, hown, hts⟩ (c_X10_ideal l D cA ad M x1 x5_4 x4_2 (0 : Int32) hc32) (cwV 4 hts gL_shoots_X10_ideal rfl rfl rfl (by decide +kernel) ⟨Nat.le_of_ble_eq_true rfl, Nat.le_of_ble_eq_true rfl⟩) (xpreV hK hW (k := 224) rfl (by decide) rfl) rfl rfl hl.1 rfl (lv_room (Nat.le_of_ble_eq_true rfl)) dL_shoots_32 ⟨Nat.le_of_ble_eq_true rfl, Nat.le_of_ble_eq_true rfl⟩) hW (fun H locs hW => ?_)
  refine lv_istore (lv' := [(6, .int r_5), (5, .int x5_4), (4, .int x4_2), (0, .ref (ad 224)), (1, .int x1), (2, .int x2), (3, .int x3)]) hx hb dL_shoots_35 hl (by decide) rfl (fun ls hl => ?_)
  refine lv_aload_n hx hb dL_shoots_37 rfl (lv_at hl 3 rfl) ?_
  refine lv_iload_n hx hb dL_shoots_38 rfl (lv_at hl 4 rfl) ?_
  refine lv_iload hx hb dL_shoots_39 (lv_at hl 1 rfl) ?_
  refine lv_iload hx hb dL_shoots_41 (lv_at hl 2 rfl) ?_
  refine lv_iconst (v := (1 : Int32)) hx hb dL_shoots_43 (by decide) ?_
  obtain ⟨r_6, hc44, hr⟩ := ob1_e hr
  refine xk_i (va_runV (As := [.int x1, .int x5_4, .int x4_2, .int (1 : Int32)]) (rest := []) ⟨hx, hb, hml, hown, hts⟩ (c_X10_ideal l D cA ad M x1 x5_4 x4_2 (1 : Int32) hc44) (cwV 4 hts gL_shoots_X10_ideal rfl rfl rfl (by decide +kernel) ⟨Nat.le_of_ble_eq_true rfl, Nat.le_of_ble_eq_true rfl⟩) (xpreV hK hW (k := 224) rfl (by decide) rfl) rfl rfl hl.1 rfl (lv_room (Nat.le_of_ble_eq_true rfl)) dL_shoots_44 ⟨Nat.le_of_ble_eq_true rfl, Nat.le_of_ble_eq_true rfl⟩) hW (fun H locs hW => ?_)
  refine lv_istore (lv' := [(7, .int r_6), (6, .int r_5), (5, .int x5_4), (4, .int x4_2), (0, .ref (ad 224)), (1, .int x1), (2, .int x2), (3, .int x3)]) hx hb dL_shoots_47 hl (by decide) rfl (fun ls hl => ?_)
  refine lv_aload_n hx hb dL_shoots_49 rfl (lv_at hl 4 rfl) ?_
  refine lv_iload_n hx hb dL_shoots_50 rfl (lv_at hl 5 rfl) ?_
  refine lv_iconst (v := (3 : Int32)) hx hb dL_shoots_51 (by decide) ?_
  obtain ⟨r_7, hc52, hr⟩ := ob1_e hr
  refine xk_i (va_runV (As := [.int x1, .int (3 : Int32)]) (rest := []) ⟨hx, hb, hml, hown, hts⟩ (c_X10_path l D cA ad M x1 (3 : Int32) hc52) (cwV 2 hts gL_shoots_X10_path rfl rfl rfl (by decide +kernel) ⟨Nat.le_of_ble_eq_true rfl, Nat.le_of_ble_eq_true rfl⟩) (xpreV hK hW (k := 224) rfl (by decide) rfl) rfl rfl hl.1 rfl (lv_room (Nat.le_of_ble_eq_true rfl)) dL_shoots_52 ⟨Nat.le_of_ble_eq_true rfl, Nat.le_of_ble_eq_true rfl⟩) hW (fun H locs hW => ?_)
  refine lv_istore (lv' := [(8, .int r_7), (7, .int r_6), (6, .int r_5), (5, .int x5_4), (4, .int x4_2), (0, .ref (ad 224)), (1, .int x1), (2, .int x2), (3, .int x3)]) hx hb dL_shoots_55 hl (by decide) rfl (fun ls hl => ?_)
  refine lv_iload_n hx hb dL_shoots_57 rfl (lv_at hl 7 rfl) ?_
  refine lv_bipush (v := (6 : Int32)) hx hb dL_shoots_58 (by decide) ?_
  refine lv_ishr hx hb dL_shoots_60 ?_
  refine lv_iconst (v := (3 : Int32)) hx hb dL_shoots_61 (by decide) ?_
  obtain ⟨r_8, hc62, hr⟩ := ob1_e hr
  refine xk_i (va_runS (As := [.int (x2 >>> ((6 : Int32) &&& 31)), .int (3 : Int32)]) (rest := []) ⟨hx, hb, hml, hown, hts⟩ (c_L_low l D cA ad M (x2 >>> ((6 : Int32) &&& 31)) (3 : Int32) hc62) (va_cwS 2 hts gL_shoots_L_low rfl rfl rfl (by decide +kernel) ⟨Nat.le_of_ble_eq_true rfl, Nat.le_of_ble_eq_true rfl⟩) (xpreS hK hW) rfl rfl hl.1 rfl (lv_room (Nat.le_of_ble_eq_true rfl)) dL_shoots_62 ⟨Nat.le_of_ble_eq_true rfl, Nat.le_of_ble_eq_true rfl⟩) hW (fun H locs hW => ?_)
  obtain ⟨y_9, hr, hr3⟩ := ob1_e hr
  have hj85_9 : ∀ (H : Heap) (locs : List Loc) (ls : Array Slot), Xw D true cA ad M (AX true ad) s.heap H locs → lv_has ls 15 [(7, .int r_6), (6, .int r_5), (5, .int x5_4), (4, .int x4_2), (0, .ref (ad 224)), (1, .int x1), (2, .int x2)] → W p l e (headSpec wsL_shoots { frames := 5, cells := 0, slots := 0, locals := 149 }).room s m args below meth c H locs 0 0 (MQ below (QiX true D true cA ad r M') args s 0 0 (AX true ad)) (F0 m 85 ls [.int y_9]) := by
    intro H locs ls hW hl
    have hr := hr3
    refine lv_istore (lv' := [(9, .int y_9), (7, .int r_6), (6, .int r_5), (5, .int x5_4), (4, .int x4_2), (0, .ref (ad 224)), (1, .int x1), (2, .int x2)]) hx hb dL_shoots_85 hl (by decide) rfl (fun ls hl => ?_)
    refine lv_iload hx hb dL_shoots_87 (lv_at hl 2 rfl) ?_
    refine lv_iload hx hb dL_shoots_89 (lv_at hl 0 rfl) ?_
    refine lv_iadd hx hb dL_shoots_91 ?_
    refine lv_aload_n hx hb dL_shoots_92 rfl (lv_at hl 5 rfl) ?_
    refine lv_iload_n hx hb dL_shoots_93 rfl (lv_at hl 6 rfl) ?_
    refine lv_iconst (v := (4 : Int32)) hx hb dL_shoots_94 (by decide) ?_
    obtain ⟨r_11, hc95, hr⟩ := ob1_e hr
    refine xk_i (va_runV (As := [.int x1, .int (4 : Int32)]) (rest := [.int (r_5 + y_9)]) ⟨hx, hb, hml, hown, hts⟩ (c_X10_path l D cA ad M x1 (4 : Int32) hc95) (cwV 2 hts gL_shoots_X10_path rfl rfl rfl (by decide +kernel) ⟨Nat.le_of_ble_eq_true rfl, Nat.le_of_ble_eq_true rfl⟩) (xpreV hK hW (k := 224) rfl (by decide) rfl) rfl rfl hl.1 rfl (lv_room (Nat.le_of_ble_eq_true rfl)) dL_shoots_95 ⟨Nat.le_of_ble_eq_true rfl, Nat.le_of_ble_eq_true rfl⟩) hW (fun H locs hW => ?_)
    refine lv_sipush (v := (1000 : Int32)) hx hb dL_shoots_98 (by decide) ?_
    refine lv_iadd hx hb dL_shoots_101 ?_
    obtain ⟨y_12, hr, hr3⟩ := ob1_e hr
    have hj115_12 : ∀ (H : Heap) (locs : List Loc) (ls : Array Slot), Xw D true cA ad M (AX true ad) s.heap H locs → lv_has ls 15 [(7, .int r_6), (6, .int r_5), (5, .int x5_4), (4, .int x4_2), (0, .ref (ad 224)), (1, .int x1), (2, .int x2)] → W p l e (headSpec wsL_shoots { frames := 5, cells := 0, slots := 0, locals := 149 }).room s m args below meth c H locs 0 0 (MQ below (QiX true D true cA ad r M') args s 0 0 (AX true ad)) (F0 m 115 ls [.int y_12]) := by
      intro H locs ls hW hl
      have hr := hr3
      refine lv_istore (lv' := [(10, .int y_12), (7, .int r_6), (6, .int r_5), (5, .int x5_4), (4, .int x4_2), (0, .ref (ad 224)), (1, .int x1), (2, .int x2)]) hx hb dL_shoots_115 hl (by decide) rfl (fun ls hl => ?_)
      refine lv_iload_n hx hb dL_shoots_117 rfl (lv_at hl 7 rfl) ?_
      refine lv_iconst (v := (3 : Int32)) hx hb dL_shoots_118 (by decide) ?_
      refine lv_ishr hx hb dL_shoots_119 ?_
      refine lv_bipush (v := (101 : Int32)) hx hb dL_shoots_120 (by decide) ?_
      obtain ⟨r_13, hc122, hr⟩ := ob1_e hr
      refine xk_i (va_runS (As := [.int (x2 >>> ((3 : Int32) &&& 31)), .int (101 : Int32)]) (rest := []) ⟨hx, hb, hml, hown, hts⟩ (c_L_low l D cA ad M (x2 >>> ((3 : Int32) &&& 31)) (101 : Int32) hc122) (va_cwS 2 hts gL_shoots_L_low rfl rfl rfl (by decide +kernel) ⟨Nat.le_of_ble_eq_true rfl, Nat.le_of_ble_eq_true rfl⟩) (xpreS hK hW) rfl rfl hl.1 rfl (lv_room (Nat.le_of_ble_eq_true rfl)) dL_shoots_122 ⟨Nat.le_of_ble_eq_true rfl, Nat.le_of_ble_eq_true rfl⟩) hW (fun H locs hW => ?_)
      refine lv_istore (lv' := [(11, .int r_13), (10, .int y_12), (7, .int r_6), (6, .int r_5), (5, .int x5_4), (4, .int x4_2), (0, .ref (ad 224)), (1, .int x1), (2, .int x2)]) hx hb dL_shoots_125 hl (by decide) rfl (fun ls hl => ?_)
      refine lv_aload_n hx hb dL_shoots_127 rfl (lv_at hl 6 rfl) ?_
      refine lv_iload_n hx hb dL_shoots_128 rfl (lv_at hl 7 rfl) ?_
      refine lv_iload hx hb dL_shoots_129 (lv_at hl 1 rfl) ?_
      refine lv_iload hx hb dL_shoots_131 (lv_at hl 2 rfl) ?_
      obtain ⟨r_14, hc133, hr⟩ := ob1_e hr
      refine xk_i (va_runV (As := [.int x1, .int y_12, .int r_6]) (rest := []) ⟨hx, hb, hml, hown, hts⟩ (c_X10_velocity l D cA ad M x1 y_12 r_6 hc133) (cwV 3 hts gL_shoots_X10_velocity rfl rfl rfl (by decide +kernel) ⟨Nat.le_of_ble_eq_true rfl, Nat.le_of_ble_eq_true rfl⟩) (xpreV hK hW (k := 224) rfl (by decide) rfl) rfl rfl hl.1 rfl (lv_room (Nat.le_of_ble_eq_true rfl)) dL_shoots_133 ⟨Nat.le_of_ble_eq_true rfl, Nat.le_of_ble_eq_true rfl⟩) hW (fun H locs hW => ?_)
      refine lv_istore (lv' := [(12, .int r_14), (11, .int r_13), (10, .int y_12), (7, .int r_6), (6, .int r_5), (5, .int x5_4), (4, .int x4_2), (0, .ref (ad 224)), (1, .int x1), (2, .int x2)]) hx hb dL_shoots_136 hl (by decide) rfl (fun ls hl => ?_)
      refine lv_aload_n hx hb dL_shoots_138 rfl (lv_at hl 7 rfl) ?_
      refine lv_iload_n hx hb dL_shoots_139 rfl (lv_at hl 8 rfl) ?_
      refine lv_iload hx hb dL_shoots_140 (lv_at hl 2 rfl) ?_
      refine lv_iload hx hb dL_shoots_142 (lv_at hl 3 rfl) ?_
      refine lv_iload hx hb dL_shoots_144 (lv_at hl 1 rfl) ?_
      obtain ⟨r_16, M_15, hc146, hr⟩ := ob2_e hr
      refine xc_i (va_runV (As := [.int x1, .int y_12, .int r_6, .int r_13]) (rest := []) ⟨hx, hb, hml, hown, hts⟩ (c_X10_shot l D cA ad M x1 y_12 r_6 r_13 hc146) (cwV 4 hts gL_shoots_X10_shot rfl rfl rfl (by decide +kernel) ⟨Nat.le_of_ble_eq_true rfl, Nat.le_of_ble_eq_true rfl⟩) (xpreV hK hW (k := 224) rfl (by decide) rfl) rfl rfl hl.1 rfl (lv_room (Nat.le_of_ble_eq_true rfl)) dL_shoots_146 ⟨Nat.le_of_ble_eq_true rfl, Nat.le_of_ble_eq_true rfl⟩) hW (fun ad_17 H locs had2 hW => ?_)
      rw [← had2.1 224 rfl] at hl
      have had := had2
      refine lv_istore (lv' := [(13, .int r_16), (12, .int r_14), (11, .int r_13), (10, .int y_12), (7, .int r_6), (6, .int r_5), (5, .int x5_4), (4, .int x4_2), (0, .ref (ad_17 224)), (1, .int x1), (2, .int x2)]) hx hb dL_shoots_149 hl (by decide) rfl (fun ls hl => ?_)
      refine lv_aload_n hx hb dL_shoots_151 rfl (lv_at hl 8 rfl) ?_
      refine lv_bipush (v := (6 : Int32)) hx hb dL_shoots_152 (by decide) ?_
      obtain ⟨r_18, hc154, hr⟩ := ob1_e hr
      refine xk_i (va_runV (As := [.int (6 : Int32)]) (rest := []) ⟨hx, hb, hml, hown, hts⟩ (c_X10_total l D cA ad_17 M_15 (6 : Int32) hc154) (cwV 1 hts gL_shoots_X10_total rfl rfl rfl (by decide +kernel) ⟨Nat.le_of_ble_eq_true rfl, Nat.le_of_ble_eq_true rfl⟩) (xpreV hK hW (k := 224) rfl (by decide) rfl) rfl rfl hl.1 rfl (lv_room (Nat.le_of_ble_eq_true rfl)) dL_shoots_154 ⟨Nat.le_of_ble_eq_true rfl, Nat.le_of_ble_eq_true rfl⟩) hW (fun H locs hW => ?_)
      refine lv_iconst (v := (1 : Int32)) hx hb dL_shoots_157 (by decide) ?_
      obtain ⟨y_19, hr, hr3⟩ := ob1_e hr
      have hj166_19 : ∀ (H : Heap) (locs : List Loc) (ls : Array Slot), Xw D true cA ad_17 M_15 (AX true ad) s.heap H locs → lv_has ls 15 [(13, .int r_16), (12, .int r_14), (11, .int r_13), (10, .int y_12), (7, .int r_6), (6, .int r_5), (5, .int x5_4), (4, .int x4_2), (0, .ref (ad_17 224)), (1, .int x1)] → W p l e (headSpec wsL_shoots { frames := 5, cells := 0, slots := 0, locals := 149 }).room s m args below meth c H locs 0 0 (MQ below (QiX true D true cA ad r M') args s 0 0 (AX true ad)) (F0 m 166 ls [.int y_19]) := by
        intro H locs ls hW hl
        have hr := hr3
        refine lv_istore (lv' := [(14, .int y_19), (13, .int r_16), (12, .int r_14), (11, .int r_13), (10, .int y_12), (7, .int r_6), (6, .int r_5), (5, .int x5_4), (4, .int x4_2), (0, .ref (ad_17 224)), (1, .int x1)]) hx hb dL_shoots_166 hl (by decide) rfl (fun ls hl => ?_)
        refine lv_iload hx hb dL_shoots_168 (lv_at hl 6 rfl) ?_
        refine lv_aload_n hx hb dL_shoots_170 rfl (lv_at hl 9 rfl) ?_
        refine lv_iload_n hx hb dL_shoots_171 rfl (lv_at hl 10 rfl) ?_
        refine lv_iload hx hb dL_shoots_172 (lv_at hl 7 rfl) ?_
        refine lv_iload hx hb dL_shoots_174 (lv_at hl 8 rfl) ?_
        refine lv_ineg hx hb dL_shoots_176 ?_
        refine lv_iconst (v := (1 : Int32)) hx hb dL_shoots_177 (by decide) ?_
        obtain ⟨r_20, hc178, hr⟩ := ob1_e hr
        refine xk_i (va_runV (As := [.int x1, .int x5_4, .int (-x4_2), .int (1 : Int32)]) (rest := [.int r_5]) ⟨hx, hb, hml, hown, hts⟩ (c_X10_ideal l D cA ad_17 M_15 x1 x5_4 (-x4_2) (1 : Int32) hc178) (cwV 4 hts gL_shoots_X10_ideal rfl rfl rfl (by decide +kernel) ⟨Nat.le_of_ble_eq_true rfl, Nat.le_of_ble_eq_true rfl⟩) (xpreV hK hW (k := 224) rfl (by decide) rfl) rfl rfl hl.1 rfl (lv_room (Nat.le_of_ble_eq_true rfl)) dL_shoots_178 ⟨Nat.le_of_ble_eq_true rfl, Nat.le_of_ble_eq_true rfl⟩) hW (fun H locs hW => ?_)
        refine lv_icmp_ne (tgt := 266) hx hb dL_shoots_181 (by decide) (fun c1 => ?_) (fun c1 => ?_)
        · have hr := br_n c1 hr
          refine lv_iconst (v := (0 : Int32)) hx hb dL_shoots_266 (by decide) ?_
          obtain ⟨e1, e2⟩ := Prod.mk.inj (Option.some.inj hr)
          rw [← e1, ← e2]
          exact xzret hx hb hr0 hlocks hW had (by decide) dL_shoots_267
        · have hr := br_p c1 hr
          refine lv_iload hx hb dL_shoots_184 (lv_at hl 2 rfl) ?_
          refine lv_aload_n hx hb dL_shoots_186 rfl (lv_at hl 9 rfl) ?_
          refine lv_iload_n hx hb dL_shoots_187 rfl (lv_at hl 10 rfl) ?_
          refine lv_iload hx hb dL_shoots_188 (lv_at hl 5 rfl) ?_
          refine lv_iload hx hb dL_shoots_190 (lv_at hl 4 rfl) ?_
          obtain ⟨r_21, hc192, hr⟩ := ob1_e hr
          refine xk_i (va_runV (As := [.int x1, .int r_6, .int y_12]) (rest := [.int r_14]) ⟨hx, hb, hml, hown, hts⟩ (c_X10_velocity l D cA ad_17 M_15 x1 r_6 y_12 hc192) (cwV 3 hts gL_shoots_X10_velocity rfl rfl rfl (by decide +kernel) ⟨Nat.le_of_ble_eq_true rfl, Nat.le_of_ble_eq_true rfl⟩) (xpreV hK hW (k := 224) rfl (by decide) rfl) rfl rfl hl.1 rfl (lv_room (Nat.le_of_ble_eq_true rfl)) dL_shoots_192 ⟨Nat.le_of_ble_eq_true rfl, Nat.le_of_ble_eq_true rfl⟩) hW (fun H locs hW => ?_)
          refine lv_ineg hx hb dL_shoots_195 ?_
          refine lv_icmp_ne (tgt := 266) hx hb dL_shoots_196 (by decide) (fun c1 => ?_) (fun c1 => ?_)
          · have hr := br_n c1 hr
            refine lv_iconst (v := (0 : Int32)) hx hb dL_shoots_266 (by decide) ?_
            obtain ⟨e1, e2⟩ := Prod.mk.inj (Option.some.inj hr)
            rw [← e1, ← e2]
            exact xzret hx hb hr0 hlocks hW had (by decide) dL_shoots_267
          · have hr := br_p c1 hr
            refine lv_iload hx hb dL_shoots_199 (lv_at hl 1 rfl) ?_
            refine lv_aload_n hx hb dL_shoots_201 rfl (lv_at hl 9 rfl) ?_
            refine lv_iconst (v := (2 : Int32)) hx hb dL_shoots_202 (by decide) ?_
            obtain ⟨r_22, hc203, hr⟩ := ob1_e hr
            refine xk_i (va_runV (As := [.int (2 : Int32)]) (rest := [.int r_16]) ⟨hx, hb, hml, hown, hts⟩ (c_X10_total l D cA ad_17 M_15 (2 : Int32) hc203) (cwV 1 hts gL_shoots_X10_total rfl rfl rfl (by decide +kernel) ⟨Nat.le_of_ble_eq_true rfl, Nat.le_of_ble_eq_true rfl⟩) (xpreV hK hW (k := 224) rfl (by decide) rfl) rfl rfl hl.1 rfl (lv_room (Nat.le_of_ble_eq_true rfl)) dL_shoots_203 ⟨Nat.le_of_ble_eq_true rfl, Nat.le_of_ble_eq_true rfl⟩) hW (fun H locs hW => ?_)
            refine lv_icmp_ne (tgt := 266) hx hb dL_shoots_206 (by decide) (fun c1 => ?_) (fun c1 => ?_)
            · have hr := br_n c1 hr
              refine lv_iconst (v := (0 : Int32)) hx hb dL_shoots_266 (by decide) ?_
              obtain ⟨e1, e2⟩ := Prod.mk.inj (Option.some.inj hr)
              rw [← e1, ← e2]
              exact xzret hx hb hr0 hlocks hW had (by decide) dL_shoots_267
            · have hr := br_p c1 hr
              refine lv_aload_n hx hb dL_shoots_209 rfl (lv_at hl 9 rfl) ?_
              refine lv_iload_n hx hb dL_shoots_210 rfl (lv_at hl 10 rfl) ?_
              refine lv_iconst (v := (0 : Int32)) hx hb dL_shoots_211 (by decide) ?_
              obtain ⟨r_23, hc212, hr⟩ := ob1_e hr
              refine xk_i (va_runV (As := [.int x1, .int (0 : Int32)]) (rest := []) ⟨hx, hb, hml, hown, hts⟩ (c_X10_told l D cA ad_17 M_15 x1 (0 : Int32) hc212) (cwV 2 hts gL_shoots_X10_told rfl rfl rfl (by decide +kernel) ⟨Nat.le_of_ble_eq_true rfl, Nat.le_of_ble_eq_true rfl⟩) (xpreV hK hW (k := 224) rfl (by decide) rfl) rfl rfl hl.1 rfl (lv_room (Nat.le_of_ble_eq_true rfl)) dL_shoots_212 ⟨Nat.le_of_ble_eq_true rfl, Nat.le_of_ble_eq_true rfl⟩) hW (fun H locs hW => ?_)
              refine lv_iload hx hb dL_shoots_215 (lv_at hl 0 rfl) ?_
              obtain ⟨y_24, hr, hr3⟩ := ob1_e hr
              have hj227_24 : ∀ (H : Heap) (locs : List Loc) (ls : Array Slot), Xw D true cA ad_17 M_15 (AX true ad) s.heap H locs → lv_has ls 15 [(14, .int y_19), (11, .int r_13), (10, .int y_12), (7, .int r_6), (0, .ref (ad_17 224)), (1, .int x1)] → W p l e (headSpec wsL_shoots { frames := 5, cells := 0, slots := 0, locals := 149 }).room s m args below meth c H locs 0 0 (MQ below (QiX true D true cA ad r M') args s 0 0 (AX true ad)) (F0 m 227 ls [.int y_24, .int r_23]) := by
                intro H locs ls hW hl
                have hr := hr3
                refine lv_icmp_ne (tgt := 266) hx hb dL_shoots_227 (by decide) (fun c1 => ?_) (fun c1 => ?_)
                · have hr := br_n c1 hr
                  refine lv_iconst (v := (0 : Int32)) hx hb dL_shoots_266 (by decide) ?_
                  obtain ⟨e1, e2⟩ := Prod.mk.inj (Option.some.inj hr)
                  rw [← e1, ← e2]
                  exact xzret hx hb hr0 hlocks hW had (by decide) dL_shoots_267
                · have hr := br_p c1 hr
                  refine lv_aload_n hx hb dL_shoots_230 rfl (lv_at hl 4 rfl) ?_
                  refine lv_iload_n hx hb dL_shoots_231 rfl (lv_at hl 5 rfl) ?_
                  refine lv_iconst (v := (1 : Int32)) hx hb dL_shoots_232 (by decide) ?_
                  obtain ⟨r_25, hc233, hr⟩ := ob1_e hr
                  refine xk_i (va_runV (As := [.int x1, .int (1 : Int32)]) (rest := []) ⟨hx, hb, hml, hown, hts⟩ (c_X10_told l D cA ad_17 M_15 x1 (1 : Int32) hc233) (cwV 2 hts gL_shoots_X10_told rfl rfl rfl (by decide +kernel) ⟨Nat.le_of_ble_eq_true rfl, Nat.le_of_ble_eq_true rfl⟩) (xpreV hK hW (k := 224) rfl (by decide) rfl) rfl rfl hl.1 rfl (lv_room (Nat.le_of_ble_eq_true rfl)) dL_shoots_233 ⟨Nat.le_of_ble_eq_true rfl, Nat.le_of_ble_eq_true rfl⟩) hW (fun H locs hW => ?_)
                  refine lv_iload hx hb dL_shoots_236 (lv_at hl 0 rfl) ?_
                  obtain ⟨y_26, hr, hr3⟩ := ob1_e hr
                  have hj248_26 : ∀ (H : Heap) (locs : List Loc) (ls : Array Slot), Xw D true cA ad_17 M_15 (AX true ad) s.heap H locs → lv_has ls 15 [(11, .int r_13), (0, .ref (ad_17 224)), (1, .int x1)] → W p l e (headSpec wsL_shoots { frames := 5, cells := 0, slots := 0, locals := 149 }).room s m args below meth c H locs 0 0 (MQ below (QiX true D true cA ad r M') args s 0 0 (AX true ad)) (F0 m 248 ls [.int y_26, .int r_25]) := by
                    intro H locs ls hW hl
                    have hr := hr3
                    refine lv_icmp_ne (tgt := 266) hx hb dL_shoots_248 (by decide) (fun c1 => ?_) (fun c1 => ?_)
                    · have hr := br_n c1 hr
                      refine lv_iconst (v := (0 : Int32)) hx hb dL_shoots_266 (by decide) ?_
                      obtain ⟨e1, e2⟩ := Prod.mk.inj (Option.some.inj hr)
                      rw [← e1, ← e2]
                      exact xzret hx hb hr0 hlocks hW had (by decide) dL_shoots_267
                    · have hr := br_p c1 hr
                      refine lv_aload_n hx hb dL_shoots_251 rfl (lv_at hl 1 rfl) ?_
                      refine lv_iload_n hx hb dL_shoots_252 rfl (lv_at hl 2 rfl) ?_
                      refine lv_iconst (v := (2 : Int32)) hx hb dL_shoots_253 (by decide) ?_
                      obtain ⟨r_27, hc254, hr⟩ := ob1_e hr
                      refine xk_i (va_runV (As := [.int x1, .int (2 : Int32)]) (rest := []) ⟨hx, hb, hml, hown, hts⟩ (c_X10_told l D cA ad_17 M_15 x1 (2 : Int32) hc254) (cwV 2 hts gL_shoots_X10_told rfl rfl rfl (by decide +kernel) ⟨Nat.le_of_ble_eq_true rfl, Nat.le_of_ble_eq_true rfl⟩) (xpreV hK hW (k := 224) rfl (by decide) rfl) rfl rfl hl.1 rfl (lv_room (Nat.le_of_ble_eq_true rfl)) dL_shoots_254 ⟨Nat.le_of_ble_eq_true rfl, Nat.le_of_ble_eq_true rfl⟩) hW (fun H locs hW => ?_)
                      refine lv_iload hx hb dL_shoots_257 (lv_at hl 0 rfl) ?_
                      refine lv_icmp_ne (tgt := 266) hx hb dL_shoots_259 (by decide) (fun c1 => ?_) (fun c1 => ?_)
                      · have hr := br_n c1 hr
                        refine lv_iconst (v := (0 : Int32)) hx hb dL_shoots_266 (by decide) ?_
                        obtain ⟨e1, e2⟩ := Prod.mk.inj (Option.some.inj hr)
                        rw [← e1, ← e2]
                        exact xzret hx hb hr0 hlocks hW had (by decide) dL_shoots_267
                      · have hr := br_p c1 hr
                        refine lv_iconst (v := (1 : Int32)) hx hb dL_shoots_262 (by decide) ?_
                        refine lv_goto (tgt := 267) hx hb dL_shoots_263 (by decide) ?_
                        obtain ⟨e1, e2⟩ := Prod.mk.inj (Option.some.inj hr)
                        rw [← e1, ← e2]
                        exact xzret hx hb hr0 hlocks hW had (by decide) dL_shoots_267
                  clear hr3
                  refine lv_if_eq (tgt := 246) hx hb dL_shoots_238 (by decide) (fun c1 => ?_) (fun c1 => ?_)
                  · have hr := br_p c1 hr
                    refine lv_iload hx hb dL_shoots_246 (lv_at hl 3 rfl) ?_
                    have e1 := Option.some.inj hr
                    subst e1
                    exact hj248_26 _ _ _ hW (lv_sub hl [1, 4, 5] rfl)
                  · have hr := br_n c1 hr
                    refine lv_iload hx hb dL_shoots_241 (lv_at hl 2 rfl) ?_
                    refine lv_goto (tgt := 248) hx hb dL_shoots_243 (by decide) ?_
                    have e1 := Option.some.inj hr
                    subst e1
                    exact hj248_26 _ _ _ hW (lv_sub hl [1, 4, 5] rfl)
              clear hr3
              refine lv_if_eq (tgt := 225) hx hb dL_shoots_217 (by decide) (fun c1 => ?_) (fun c1 => ?_)
              · have hr := br_p c1 hr
                refine lv_iload hx hb dL_shoots_225 (lv_at hl 4 rfl) ?_
                have e1 := Option.some.inj hr
                subst e1
                exact hj227_24 _ _ _ hW (lv_sub hl [0, 3, 4, 5, 9, 10] rfl)
              · have hr := br_n c1 hr
                refine lv_iload hx hb dL_shoots_220 (lv_at hl 5 rfl) ?_
                refine lv_goto (tgt := 227) hx hb dL_shoots_222 (by decide) ?_
                have e1 := Option.some.inj hr
                subst e1
                exact hj227_24 _ _ _ hW (lv_sub hl [0, 3, 4, 5, 9, 10] rfl)
      clear hr3
      refine lv_icmp_ne (tgt := 165) hx hb dL_shoots_158 (by decide) (fun c1 => ?_) (fun c1 => ?_)
      · have hr := br_n c1 hr
        refine lv_iconst (v := (0 : Int32)) hx hb dL_shoots_165 (by decide) ?_
        have e1 := Option.some.inj hr
        subst e1
        exact hj166_19 _ _ _ hW (lv_sub hl [0, 1, 2, 3, 4, 5, 6, 7, 8, 9] rfl)
      · have hr := br_p c1 hr
        refine lv_iconst (v := (1 : Int32)) hx hb dL_shoots_161 (by decide) ?_
        refine lv_goto (tgt := 166) hx hb dL_shoots_162 (by decide) ?_
        have e1 := Option.some.inj hr
        subst e1
        exact hj166_19 _ _ _ hW (lv_sub hl [0, 1, 2, 3, 4, 5, 6, 7, 8, 9] rfl)
    clear hr3
    refine lv_icmp_ge (tgt := 110) hx hb dL_shoots_102 (by decide) (fun c1 => ?_) (fun c1 => ?_)
    · have hr := br_p c1 hr
      refine lv_iload hx hb dL_shoots_110 (lv_at hl 2 rfl) ?_
      refine lv_iload hx hb dL_shoots_112 (lv_at hl 0 rfl) ?_
      refine lv_iadd hx hb dL_shoots_114 ?_
      have e1 := Option.some.inj hr
      subst e1
      exact hj115_12 _ _ _ hW (lv_sub hl [1, 2, 3, 4, 5, 6, 7] rfl)
    · have hr := br_n c1 hr
      refine lv_iload hx hb dL_shoots_105 (lv_at hl 2 rfl) ?_
      refine lv_goto (tgt := 115) hx hb dL_shoots_107 (by decide) ?_
      have e1 := Option.some.inj hr
      subst e1
      exact hj115_12 _ _ _ hW (lv_sub hl [1, 2, 3, 4, 5, 6, 7] rfl)
  clear hr3
  refine lv_if_ne (tgt := 84) hx hb dL_shoots_65 (by decide) (fun c1 => ?_) (fun c1 => ?_)
  · have hr := br_n c1 hr
    refine lv_iconst (v := (0 : Int32)) hx hb dL_shoots_84 (by decide) ?_
    have e1 := Option.some.inj hr
    subst e1
    exact hj85_9 _ _ _ hW (lv_sub hl [1, 2, 3, 4, 5, 6, 7] rfl)
  · have hr := br_p c1 hr
    refine lv_iload_n hx hb dL_shoots_68 rfl (lv_at hl 7 rfl) ?_
    refine lv_bipush (v := (8 : Int32)) hx hb dL_shoots_69 (by decide) ?_
    refine lv_ishr hx hb dL_shoots_71 ?_
    refine lv_iconst (v := (5 : Int32)) hx hb dL_shoots_72 (by decide) ?_
    obtain ⟨r_10, hc73, hr⟩ := ob1_e hr
    refine xk_i (va_runS (As := [.int (x2 >>> ((8 : Int32) &&& 31)), .int (5 : Int32)]) (rest := []) ⟨hx, hb, hml, hown, hts⟩ (c_L_low l D cA ad M (x2 >>> ((8 : Int32) &&& 31)) (5 : Int32) hc73) (va_cwS 2 hts gL_shoots_L_low rfl rfl rfl (by decide +kernel) ⟨Nat.le_of_ble_eq_true rfl, Nat.le_of_ble_eq_true rfl⟩) (xpreS hK hW) rfl rfl hl.1 rfl (lv_room (Nat.le_of_ble_eq_true rfl)) dL_shoots_73 ⟨Nat.le_of_ble_eq_true rfl, Nat.le_of_ble_eq_true rfl⟩) hW (fun H locs hW => ?_)
    refine lv_iconst (v := (2 : Int32)) hx hb dL_shoots_76 (by decide) ?_
    refine lv_isub hx hb dL_shoots_77 ?_
    refine lv_iload hx hb dL_shoots_78 (lv_at hl 0 rfl) ?_
    refine lv_imul hx hb dL_shoots_80 ?_
    refine lv_goto (tgt := 85) hx hb dL_shoots_81 (by decide) ?_
    have e1 := Option.some.inj hr
    subst e1
    exact hj85_9 _ _ _ hW (lv_sub hl [1, 2, 3, 4, 5, 6, 7] rfl)

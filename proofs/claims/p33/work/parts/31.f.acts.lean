/-! THE LAW: acts, by gen_lawm.py -/
set_option maxHeartbeats 8000000 in
set_option maxRecDepth 100000 in
theorem c_L_acts (l : Launch) (D : va_G) (cA : Nat → ClassId) (ad : Nat → Nat) (M : Mm) (sz : Nat) (x1 : Int32) (x2 : Int32) (tL tH : Nat) {r : Int32} {M' : Mm} (hr : f_L_acts x1 x2 M = some (r, M')) : Met l yL_acts wsL_acts ({ frames := 7, cells := 2, slots := 12, locals := 183 }) (PcY D cA ad M sz tL tH [.ref (ad 224), .int x1, .int x2]) (QiZ D cA ad sz r M') 2 12 (AZ ad sz) := by
  refine Met.ofW (cc := cL_acts) (maxL := 12) (ret := (some .boolean)) (by decide) rfl ?_
  intro p e s m args below meth c s₁ B hml hv
  obtain ⟨hav, hP0, hK, hsz, hSt⟩ := hv
  have hx := B.exec
  have hb := B.bytes
  have hr0 := B.returns
  have hts := atoms_spec (ws := wsL_acts) B.pre
  have hown : s.vm.findClass RL = some m.cls := findClass_of_methodNamed B.named
  have hlocks := B.notSynchronized
  subst hsz
  have hW := zstart hP0
  have hA : ∀ q : Nat, s.heap.size ≤ q → AZ ad s.heap.size q := fun q h => Or.inr h
  have hl := lv_entry ([.ref (ad 224), .int x1, .int x2]) (n := 12) (Nat.le_of_ble_eq_true rfl)
  have hef := lg_entry_eq m ([.ref (ad 224), .int x1, .int x2]) 12
  rw [← hav] at hef
  rw [hef]
  clear hef
  generalize (lg_sl ([.ref (ad 224), .int x1, .int x2]) ++ List.replicate (12 - (lg_sl ([.ref (ad 224), .int x1, .int x2])).length) Slot.unset).toArray = ls at hl ⊢
  have hl : lv_has ls 12 [(0, .ref (ad 224)), (1, .int x1), (2, .int x2)] := hl
  clear hP0
  unfold f_L_acts at hr
  refine lv_iload_n hx hb dL_acts_0 rfl (lv_at hl 1 rfl) ?_
  refine lv_bipush (v := (16 : Int32)) hx hb dL_acts_1 (by decide) ?_
  obtain ⟨r_1, hc3, hr⟩ := ob1_e hr
  refine xk_i (va_runS (As := [.int x1, .int (16 : Int32)]) (rest := []) ⟨hx, hb, hml, hown, hts⟩ (c_L_low l D cA ad M x1 (16 : Int32) hc3) (va_cwS 2 hts gL_acts_L_low rfl rfl rfl (by decide +kernel) ⟨Nat.le_of_ble_eq_true rfl, Nat.le_of_ble_eq_true rfl⟩) (xpreS hK hW) rfl rfl hl.1 rfl (lv_room (Nat.le_of_ble_eq_true rfl)) dL_acts_3 ⟨Nat.le_of_ble_eq_true rfl, Nat.le_of_ble_eq_true rfl⟩) hW (fun H locs hW => ?_)
  refine lv_istore_n (lv' := [(3, .int r_1), (0, .ref (ad 224)), (1, .int x1), (2, .int x2)]) hx hb dL_acts_6 rfl hl (by decide) rfl (fun ls hl => ?_)
  refine lv_aload_n hx hb dL_acts_7 rfl (lv_at hl 1 rfl) ?_
  refine lv_iconst (v := (0 : Int32)) hx hb dL_acts_8 (by decide) ?_
  obtain ⟨r_2, hc9, hr⟩ := ob1_e hr
  refine xk_i (va_runV (As := [.int (0 : Int32)]) (rest := []) ⟨hx, hb, hml, hown, hts⟩ (c_X10_total l D cA ad M (0 : Int32) hc9) (cwV 1 hts gL_acts_X10_total rfl rfl rfl (by decide +kernel) ⟨Nat.le_of_ble_eq_true rfl, Nat.le_of_ble_eq_true rfl⟩) (xpreV hK hW (k := 224) rfl (by decide) rfl) rfl rfl hl.1 rfl (lv_room (Nat.le_of_ble_eq_true rfl)) dL_acts_9 ⟨Nat.le_of_ble_eq_true rfl, Nat.le_of_ble_eq_true rfl⟩) hW (fun H locs hW => ?_)
  refine lv_istore (lv' := [(4, .int r_2), (3, .int r_1), (0, .ref (ad 224)), (1, .int x1), (2, .int x2)]) hx hb dL_acts_12 hl (by decide) rfl (fun ls hl => ?_)
  refine lv_iload_n hx hb dL_acts_14 rfl (lv_at hl 4 rfl) ?_
  refine lv_iconst (v := (1 : Int32)) hx hb dL_acts_15 (by decide) ?_
  refine lv_ishr hx hb dL_acts_16 ?_
  refine lv_iload hx hb dL_acts_17 (lv_at hl 0 rfl) ?_
  obtain ⟨r_3, hc19, hr⟩ := ob1_e hr
  refine xk_i (va_runS (As := [.int (x2 >>> ((1 : Int32) &&& 31)), .int r_2]) (rest := []) ⟨hx, hb, hml, hown, hts⟩ (c_L_low l D cA ad M (x2 >>> ((1 : Int32) &&& 31)) r_2 hc19) (va_cwS 2 hts gL_acts_L_low rfl rfl rfl (by decide +kernel) ⟨Nat.le_of_ble_eq_true rfl, Nat.le_of_ble_eq_true rfl⟩) (xpreS hK hW) rfl rfl hl.1 rfl (lv_room (Nat.le_of_ble_eq_true rfl)) dL_acts_19 ⟨Nat.le_of_ble_eq_true rfl, Nat.le_of_ble_eq_true rfl⟩) hW (fun H locs hW => ?_)
  refine lv_istore (lv' := [(5, .int r_3), (4, .int r_2), (3, .int r_1), (0, .ref (ad 224)), (1, .int x1), (2, .int x2)]) hx hb dL_acts_22 hl (by decide) rfl (fun ls hl => ?_)
  refine lv_iload_n hx hb dL_acts_24 rfl (lv_at hl 2 rfl) ?_
  refine lv_bipush (v := (6 : Int32)) hx hb dL_acts_25 (by decide) ?_
  refine lv_icmp_ge (tgt := 122) hx hb dL_acts_27 (by decide) (fun c1 => ?_) (fun c1 => ?_)
  · have hr := br_p c1 hr
    refine lv_iload_n hx hb dL_acts_122 rfl (lv_at hl 2 rfl) ?_
    refine lv_bipush (v := (8 : Int32)) hx hb dL_acts_123 (by decide) ?_
    refine lv_icmp_ge (tgt := 133) hx hb dL_acts_125 (by decide) (fun c1 => ?_) (fun c1 => ?_)
    · have hr := br_p c1 hr
      refine lv_iload_n hx hb dL_acts_133 rfl (lv_at hl 2 rfl) ?_
      refine lv_bipush (v := (8 : Int32)) hx hb dL_acts_134 (by decide) ?_
      refine lv_icmp_ne (tgt := 150) hx hb dL_acts_136 (by decide) (fun c1 => ?_) (fun c1 => ?_)
      · have hr := br_n c1 hr
        refine lv_iload_n hx hb dL_acts_150 rfl (lv_at hl 2 rfl) ?_
        refine lv_bipush (v := (9 : Int32)) hx hb dL_acts_151 (by decide) ?_
        refine lv_icmp_ne (tgt := 331) hx hb dL_acts_153 (by decide) (fun c1 => ?_) (fun c1 => ?_)
        · have hr := br_n c1 hr
          refine lv_iload_n hx hb dL_acts_331 rfl (lv_at hl 2 rfl) ?_
          refine lv_bipush (v := (10 : Int32)) hx hb dL_acts_332 (by decide) ?_
          refine lv_icmp_ne (tgt := 467) hx hb dL_acts_334 (by decide) (fun c1 => ?_) (fun c1 => ?_)
          · have hr := br_n c1 hr
            refine lv_iload_n hx hb dL_acts_467 rfl (lv_at hl 2 rfl) ?_
            refine lv_bipush (v := (11 : Int32)) hx hb dL_acts_468 (by decide) ?_
            refine lv_icmp_ne (tgt := 627) hx hb dL_acts_470 (by decide) (fun c1 => ?_) (fun c1 => ?_)
            · have hr := br_n c1 hr
              refine lv_iload_n hx hb dL_acts_627 rfl (lv_at hl 2 rfl) ?_
              refine lv_bipush (v := (12 : Int32)) hx hb dL_acts_628 (by decide) ?_
              refine lv_icmp_ne (tgt := 710) hx hb dL_acts_630 (by decide) (fun c1 => ?_) (fun c1 => ?_)
              · have hr := br_n c1 hr
                refine lv_iload_n hx hb dL_acts_710 rfl (lv_at hl 2 rfl) ?_
                refine lv_bipush (v := (13 : Int32)) hx hb dL_acts_711 (by decide) ?_
                refine lv_icmp_ne (tgt := 824) hx hb dL_acts_713 (by decide) (fun c1 => ?_) (fun c1 => ?_)
                · have hr := br_n c1 hr
                  refine lv_iload_n hx hb dL_acts_824 rfl (lv_at hl 2 rfl) ?_
                  refine lv_bipush (v := (14 : Int32)) hx hb dL_acts_825 (by decide) ?_
                  refine lv_icmp_ne (tgt := 929) hx hb dL_acts_827 (by decide) (fun c1 => ?_) (fun c1 => ?_)
                  · have hr := br_n c1 hr
                    refine lv_aload_n hx hb dL_acts_929 rfl (lv_at hl 3 rfl) ?_
                    refine lv_iconst (v := (3 : Int32)) hx hb dL_acts_930 (by decide) ?_
                    obtain ⟨r_4, hc931, hr⟩ := ob1_e hr
                    refine xk_i (va_runV (As := [.int (3 : Int32)]) (rest := []) ⟨hx, hb, hml, hown, hts⟩ (c_X10_total l D cA ad M (3 : Int32) hc931) (cwV 1 hts gL_acts_X10_total rfl rfl rfl (by decide +kernel) ⟨Nat.le_of_ble_eq_true rfl, Nat.le_of_ble_eq_true rfl⟩) (xpreV hK hW (k := 224) rfl (by decide) rfl) rfl rfl hl.1 rfl (lv_room (Nat.le_of_ble_eq_true rfl)) dL_acts_931 ⟨Nat.le_of_ble_eq_true rfl, Nat.le_of_ble_eq_true rfl⟩) hW (fun H locs hW => ?_)
                    refine lv_istore (lv' := [(6, .int r_4), (5, .int r_3), (4, .int r_2), (3, .int r_1), (0, .ref (ad 224)), (1, .int x1), (2, .int x2)]) hx hb dL_acts_934 hl (by decide) rfl (fun ls hl => ?_)
                    refine lv_aload_n hx hb dL_acts_936 rfl (lv_at hl 4 rfl) ?_
                    obtain ⟨r_6, M_5, hc937, hr⟩ := ob2_e hr
                    refine xk_i (va_runV (As := []) (rest := []) ⟨hx, hb, hml, hown, hts⟩ (c_X10_wouldBe l D cA ad M hc937) (cwV 0 hts gL_acts_X10_wouldBe rfl rfl rfl (by decide +kernel) ⟨Nat.le_of_ble_eq_true rfl, Nat.le_of_ble_eq_true rfl⟩) (xpreV hK hW (k := 224) rfl (by decide) rfl) rfl rfl hl.1 rfl (lv_room (Nat.le_of_ble_eq_true rfl)) dL_acts_937 ⟨Nat.le_of_ble_eq_true rfl, Nat.le_of_ble_eq_true rfl⟩) hW (fun H locs hW => ?_)
                    refine lv_istore (lv' := [(7, .int r_6), (6, .int r_4), (5, .int r_3), (4, .int r_2), (3, .int r_1), (0, .ref (ad 224)), (1, .int x1), (2, .int x2)]) hx hb dL_acts_940 hl (by decide) rfl (fun ls hl => ?_)
                    refine lv_aload_n hx hb dL_acts_942 rfl (lv_at hl 5 rfl) ?_
                    refine lv_bipush (v := (8 : Int32)) hx hb dL_acts_943 (by decide) ?_
                    obtain ⟨r_7, hc945, hr⟩ := ob1_e hr
                    refine xk_i (va_runV (As := [.int (8 : Int32)]) (rest := []) ⟨hx, hb, hml, hown, hts⟩ (c_X10_total l D cA ad M_5 (8 : Int32) hc945) (cwV 1 hts gL_acts_X10_total rfl rfl rfl (by decide +kernel) ⟨Nat.le_of_ble_eq_true rfl, Nat.le_of_ble_eq_true rfl⟩) (xpreV hK hW (k := 224) rfl (by decide) rfl) rfl rfl hl.1 rfl (lv_room (Nat.le_of_ble_eq_true rfl)) dL_acts_945 ⟨Nat.le_of_ble_eq_true rfl, Nat.le_of_ble_eq_true rfl⟩) hW (fun H locs hW => ?_)
                    refine lv_istore (lv' := [(8, .int r_7), (7, .int r_6), (6, .int r_4), (5, .int r_3), (4, .int r_2), (3, .int r_1), (0, .ref (ad 224)), (1, .int x1), (2, .int x2)]) hx hb dL_acts_948 hl (by decide) rfl (fun ls hl => ?_)
                    refine lv_aload_n hx hb dL_acts_950 rfl (lv_at hl 6 rfl) ?_
                    refine lv_iload hx hb dL_acts_951 (lv_at hl 4 rfl) ?_
                    refine lv_sipush (v := (5000 : Int32)) hx hb dL_acts_953 (by decide) ?_
                    refine lv_sipush (v := (5000 : Int32)) hx hb dL_acts_956 (by decide) ?_
                    refine lv_bipush (v := (50 : Int32)) hx hb dL_acts_959 (by decide) ?_
                    obtain ⟨r_9, M_8, hc961, hr⟩ := ob2_e hr
                    refine xc_i (va_runV (As := [.int r_2, .int (5000 : Int32), .int (5000 : Int32), .int (50 : Int32)]) (rest := []) ⟨hx, hb, hml, hown, hts⟩ (c_X10_shot l D cA ad M_5 r_2 (5000 : Int32) (5000 : Int32) (50 : Int32) hc961) (cwV 4 hts gL_acts_X10_shot rfl rfl rfl (by decide +kernel) ⟨Nat.le_of_ble_eq_true rfl, Nat.le_of_ble_eq_true rfl⟩) (xpreV hK hW (k := 224) rfl (by decide) rfl) rfl rfl hl.1 rfl (lv_room (Nat.le_of_ble_eq_true rfl)) dL_acts_961 ⟨Nat.le_of_ble_eq_true rfl, Nat.le_of_ble_eq_true rfl⟩) hW (fun ad_10 H locs had2 hW => ?_)
                    rw [← had2.1 224 rfl] at hl
                    have had := had2
                    refine lv_ldc (v := (-2000000001 : Int32)) hx hb hown (hts _ (wm 4 rfl)) dL_acts_964 ?_
                    refine lv_icmp_ne (tgt := 1069) hx hb dL_acts_966 (by decide) (fun c1 => ?_) (fun c1 => ?_)
                    · have hr := br_n c1 hr
                      refine lv_iconst (v := (0 : Int32)) hx hb dL_acts_1069 (by decide) ?_
                      obtain ⟨e1, e2⟩ := Prod.mk.inj (Option.some.inj hr)
                      rw [← e1, ← e2]
                      refine W.widen (k := 2) (n := 12) (Nat.le_of_ble_eq_true rfl) (Nat.le_of_ble_eq_true rfl) ?_
                      exact zzret hx hb hr0 hlocks hW had (by decide) dL_acts_1070
                    · have hr := br_p c1 hr
                      refine lv_aload_n hx hb dL_acts_969 rfl (lv_at hl 6 rfl) ?_
                      refine lv_iload hx hb dL_acts_970 (lv_at hl 3 rfl) ?_
                      refine lv_sipush (v := (999 : Int32)) hx hb dL_acts_972 (by decide) ?_
                      refine lv_sipush (v := (9000 : Int32)) hx hb dL_acts_975 (by decide) ?_
                      refine lv_bipush (v := (50 : Int32)) hx hb dL_acts_978 (by decide) ?_
                      obtain ⟨r_12, M_11, hc980, hr⟩ := ob2_e hr
                      refine xc_i (va_runV (As := [.int r_3, .int (999 : Int32), .int (9000 : Int32), .int (50 : Int32)]) (rest := []) ⟨hx, hb, hml, hown, hts⟩ (c_X10_shot l D cA ad_10 M_8 r_3 (999 : Int32) (9000 : Int32) (50 : Int32) hc980) (cwV 4 hts gL_acts_X10_shot rfl rfl rfl (by decide +kernel) ⟨Nat.le_of_ble_eq_true rfl, Nat.le_of_ble_eq_true rfl⟩) (xpreV hK hW (k := 224) rfl (by decide) rfl) rfl rfl hl.1 rfl (lv_room (Nat.le_of_ble_eq_true rfl)) dL_acts_980 ⟨Nat.le_of_ble_eq_true rfl, Nat.le_of_ble_eq_true rfl⟩) hW (fun ad_13 H locs had2 hW => ?_)
                      rw [← had2.1 224 rfl] at hl
                      have had := adR_tr had had2
                      refine lv_ldc (v := (-2000000002 : Int32)) hx hb hown (hts _ (wm 5 rfl)) dL_acts_983 ?_
                      refine lv_icmp_ne (tgt := 1069) hx hb dL_acts_985 (by decide) (fun c1 => ?_) (fun c1 => ?_)
                      · have hr := br_n c1 hr
                        refine lv_iconst (v := (0 : Int32)) hx hb dL_acts_1069 (by decide) ?_
                        obtain ⟨e1, e2⟩ := Prod.mk.inj (Option.some.inj hr)
                        rw [← e1, ← e2]
                        refine W.widen (k := 2) (n := 12) (Nat.le_of_ble_eq_true rfl) (Nat.le_of_ble_eq_true rfl) ?_
                        exact zzret hx hb hr0 hlocks hW had (by decide) dL_acts_1070
                      · have hr := br_p c1 hr
                        refine lv_aload_n hx hb dL_acts_988 rfl (lv_at hl 6 rfl) ?_
                        refine lv_iconst (v := (5 : Int32)) hx hb dL_acts_989 (by decide) ?_
                        refine lv_iconst (v := (1 : Int32)) hx hb dL_acts_990 (by decide) ?_
                        obtain ⟨r_15, M_14, hc991, hr⟩ := ob2_e hr
                        refine xc_i (va_runV (As := [.int (5 : Int32), .int (1 : Int32)]) (rest := []) ⟨hx, hb, hml, hown, hts⟩ (c_X10_set l D cA ad_13 M_11 (5 : Int32) (1 : Int32) tL tH hc991) (cwV 2 hts gL_acts_X10_set rfl rfl rfl (by decide +kernel) ⟨Nat.le_of_ble_eq_true rfl, Nat.le_of_ble_eq_true rfl⟩) (zpreV hK hW hSt) rfl rfl hl.1 rfl (lv_room (Nat.le_of_ble_eq_true rfl)) dL_acts_991 ⟨Nat.le_of_ble_eq_true rfl, Nat.le_of_ble_eq_true rfl⟩) hW (fun ad_16 H locs had2 hW => ?_)
                        rw [← had2.1 224 rfl] at hl
                        have had := adR_tr had had2
                        refine lv_ldc (v := (-2000000001 : Int32)) hx hb hown (hts _ (wm 4 rfl)) dL_acts_994 ?_
                        refine lv_icmp_ne (tgt := 1069) hx hb dL_acts_996 (by decide) (fun c1 => ?_) (fun c1 => ?_)
                        · have hr := br_n c1 hr
                          refine lv_iconst (v := (0 : Int32)) hx hb dL_acts_1069 (by decide) ?_
                          obtain ⟨e1, e2⟩ := Prod.mk.inj (Option.some.inj hr)
                          rw [← e1, ← e2]
                          refine W.widen (k := 2) (n := 12) (Nat.le_of_ble_eq_true rfl) (Nat.le_of_ble_eq_true rfl) ?_
                          exact zzret hx hb hr0 hlocks hW had (by decide) dL_acts_1070
                        · have hr := br_p c1 hr
                          refine lv_aload_n hx hb dL_acts_999 rfl (lv_at hl 6 rfl) ?_
                          refine lv_iconst (v := (0 : Int32)) hx hb dL_acts_1000 (by decide) ?_
                          refine lv_iconst (v := (0 : Int32)) hx hb dL_acts_1001 (by decide) ?_
                          obtain ⟨r_18, M_17, hc1002, hr⟩ := ob2_e hr
                          refine xc_i (va_runV (As := [.int (0 : Int32), .int (0 : Int32)]) (rest := []) ⟨hx, hb, hml, hown, hts⟩ (c_X10_setPoint l D cA ad_16 M_14 (0 : Int32) (0 : Int32) hc1002) (cwV 2 hts gL_acts_X10_setPoint rfl rfl rfl (by decide +kernel) ⟨Nat.le_of_ble_eq_true rfl, Nat.le_of_ble_eq_true rfl⟩) (xpreV hK hW (k := 224) rfl (by decide) rfl) rfl rfl hl.1 rfl (lv_room (Nat.le_of_ble_eq_true rfl)) dL_acts_1002 ⟨Nat.le_of_ble_eq_true rfl, Nat.le_of_ble_eq_true rfl⟩) hW (fun ad_19 H locs had2 hW => ?_)
                          rw [← had2.1 224 rfl] at hl
                          have had := adR_tr had had2
                          refine lv_ldc (v := (-2000000002 : Int32)) hx hb hown (hts _ (wm 5 rfl)) dL_acts_1005 ?_
                          refine lv_icmp_ne (tgt := 1069) hx hb dL_acts_1007 (by decide) (fun c1 => ?_) (fun c1 => ?_)
                          · have hr := br_n c1 hr
                            refine lv_iconst (v := (0 : Int32)) hx hb dL_acts_1069 (by decide) ?_
                            obtain ⟨e1, e2⟩ := Prod.mk.inj (Option.some.inj hr)
                            rw [← e1, ← e2]
                            refine W.widen (k := 2) (n := 12) (Nat.le_of_ble_eq_true rfl) (Nat.le_of_ble_eq_true rfl) ?_
                            exact zzret hx hb hr0 hlocks hW had (by decide) dL_acts_1070
                          · have hr := br_p c1 hr
                            refine lv_aload_n hx hb dL_acts_1010 rfl (lv_at hl 6 rfl) ?_
                            refine lv_iconst (v := (-1 : Int32)) hx hb dL_acts_1011 (by decide) ?_
                            refine lv_iconst (v := (0 : Int32)) hx hb dL_acts_1012 (by decide) ?_
                            obtain ⟨r_20, hc1013, hr⟩ := ob1_e hr
                            refine xk_i (va_runV (As := [.int (-1 : Int32), .int (0 : Int32)]) (rest := []) ⟨hx, hb, hml, hown, hts⟩ (c_X10_round l D cA ad_19 M_17 (-1 : Int32) (0 : Int32) hc1013) (cwV 2 hts gL_acts_X10_round rfl rfl rfl (by decide +kernel) ⟨Nat.le_of_ble_eq_true rfl, Nat.le_of_ble_eq_true rfl⟩) (xpreV hK hW (k := 224) rfl (by decide) rfl) rfl rfl hl.1 rfl (lv_room (Nat.le_of_ble_eq_true rfl)) dL_acts_1013 ⟨Nat.le_of_ble_eq_true rfl, Nat.le_of_ble_eq_true rfl⟩) hW (fun H locs hW => ?_)
                            refine lv_ldc (v := (-2000000001 : Int32)) hx hb hown (hts _ (wm 4 rfl)) dL_acts_1016 ?_
                            refine lv_icmp_ne (tgt := 1069) hx hb dL_acts_1018 (by decide) (fun c1 => ?_) (fun c1 => ?_)
                            · have hr := br_n c1 hr
                              refine lv_iconst (v := (0 : Int32)) hx hb dL_acts_1069 (by decide) ?_
                              obtain ⟨e1, e2⟩ := Prod.mk.inj (Option.some.inj hr)
                              rw [← e1, ← e2]
                              refine W.widen (k := 2) (n := 12) (Nat.le_of_ble_eq_true rfl) (Nat.le_of_ble_eq_true rfl) ?_
                              exact zzret hx hb hr0 hlocks hW had (by decide) dL_acts_1070
                            · have hr := br_p c1 hr
                              refine lv_aload_n hx hb dL_acts_1021 rfl (lv_at hl 6 rfl) ?_
                              refine lv_bipush (v := (8 : Int32)) hx hb dL_acts_1022 (by decide) ?_
                              obtain ⟨r_21, hc1024, hr⟩ := ob1_e hr
                              refine xk_i (va_runV (As := [.int (8 : Int32)]) (rest := []) ⟨hx, hb, hml, hown, hts⟩ (c_X10_total l D cA ad_19 M_17 (8 : Int32) hc1024) (cwV 1 hts gL_acts_X10_total rfl rfl rfl (by decide +kernel) ⟨Nat.le_of_ble_eq_true rfl, Nat.le_of_ble_eq_true rfl⟩) (xpreV hK hW (k := 224) rfl (by decide) rfl) rfl rfl hl.1 rfl (lv_room (Nat.le_of_ble_eq_true rfl)) dL_acts_1024 ⟨Nat.le_of_ble_eq_true rfl, Nat.le_of_ble_eq_true rfl⟩) hW (fun H locs hW => ?_)
                              refine lv_iload hx hb dL_acts_1027 (lv_at hl 0 rfl) ?_
                              refine lv_icmp_ne (tgt := 1069) hx hb dL_acts_1029 (by decide) (fun c1 => ?_) (fun c1 => ?_)
                              · have hr := br_n c1 hr
                                refine lv_iconst (v := (0 : Int32)) hx hb dL_acts_1069 (by decide) ?_
                                obtain ⟨e1, e2⟩ := Prod.mk.inj (Option.some.inj hr)
                                rw [← e1, ← e2]
                                refine W.widen (k := 2) (n := 12) (Nat.le_of_ble_eq_true rfl) (Nat.le_of_ble_eq_true rfl) ?_
                                exact zzret hx hb hr0 hlocks hW had (by decide) dL_acts_1070
                              · have hr := br_p c1 hr
                                refine lv_aload_n hx hb dL_acts_1032 rfl (lv_at hl 6 rfl) ?_
                                obtain ⟨r_23, M_22, hc1033, hr⟩ := ob2_e hr
                                refine xz_i (va_runS (As := [.ref (ad_19 224)]) (rest := []) ⟨hx, hb, hml, hown, hts⟩ (c_L_closes l D cA ad_19 M_17 H.size hc1033) (va_cwS 1 hts gL_acts_L_closes rfl rfl rfl (by decide +kernel) ⟨Nat.le_of_ble_eq_true rfl, Nat.le_of_ble_eq_true rfl⟩) (zpre hK hW) rfl rfl hl.1 rfl (lv_room (Nat.le_of_ble_eq_true rfl)) dL_acts_1033 ⟨Nat.le_of_ble_eq_true rfl, Nat.le_of_ble_eq_true rfl⟩) hW hA (fun ad_24 H locs had2 hW => ?_)
                                rw [← had2.1 224 rfl] at hl
                                have had := adR_tr had had2
                                refine lv_if_eq (tgt := 1069) hx hb dL_acts_1036 (by decide) (fun c1 => ?_) (fun c1 => ?_)
                                · have hr := br_p c1 hr
                                  refine lv_iconst (v := (0 : Int32)) hx hb dL_acts_1069 (by decide) ?_
                                  obtain ⟨e1, e2⟩ := Prod.mk.inj (Option.some.inj hr)
                                  rw [← e1, ← e2]
                                  exact zzret hx hb hr0 hlocks hW had (by decide) dL_acts_1070
                                · have hr := br_n c1 hr
                                  refine lv_aload_n hx hb dL_acts_1039 rfl (lv_at hl 6 rfl) ?_
                                  obtain ⟨r_26, M_25, hc1040, hr⟩ := ob2_e hr
                                  refine xk_i (va_runV (As := []) (rest := []) ⟨hx, hb, hml, hown, hts⟩ (c_X10_undo l D cA ad_24 M_22 hc1040) (cwV 0 hts gL_acts_X10_undo rfl rfl rfl (by decide +kernel) ⟨Nat.le_of_ble_eq_true rfl, Nat.le_of_ble_eq_true rfl⟩) (xpreV hK hW (k := 224) rfl (by decide) rfl) rfl rfl hl.1 rfl (lv_room (Nat.le_of_ble_eq_true rfl)) dL_acts_1040 ⟨Nat.le_of_ble_eq_true rfl, Nat.le_of_ble_eq_true rfl⟩) hW (fun H locs hW => ?_)
                                  refine lv_if_lt (tgt := 1069) hx hb dL_acts_1043 (by decide) (fun c1 => ?_) (fun c1 => ?_)
                                  · have hr := br_p c1 hr
                                    refine lv_iconst (v := (0 : Int32)) hx hb dL_acts_1069 (by decide) ?_
                                    obtain ⟨e1, e2⟩ := Prod.mk.inj (Option.some.inj hr)
                                    rw [← e1, ← e2]
                                    exact zzret hx hb hr0 hlocks hW had (by decide) dL_acts_1070
                                  · have hr := br_n c1 hr
                                    refine lv_aload_n hx hb dL_acts_1046 rfl (lv_at hl 6 rfl) ?_
                                    refine lv_iconst (v := (3 : Int32)) hx hb dL_acts_1047 (by decide) ?_
                                    obtain ⟨r_27, hc1048, hr⟩ := ob1_e hr
                                    refine xk_i (va_runV (As := [.int (3 : Int32)]) (rest := []) ⟨hx, hb, hml, hown, hts⟩ (c_X10_total l D cA ad_24 M_25 (3 : Int32) hc1048) (cwV 1 hts gL_acts_X10_total rfl rfl rfl (by decide +kernel) ⟨Nat.le_of_ble_eq_true rfl, Nat.le_of_ble_eq_true rfl⟩) (xpreV hK hW (k := 224) rfl (by decide) rfl) rfl rfl hl.1 rfl (lv_room (Nat.le_of_ble_eq_true rfl)) dL_acts_1048 ⟨Nat.le_of_ble_eq_true rfl, Nat.le_of_ble_eq_true rfl⟩) hW (fun H locs hW => ?_)
                                    refine lv_iload hx hb dL_acts_1051 (lv_at hl 2 rfl) ?_
                                    refine lv_icmp_ne (tgt := 1069) hx hb dL_acts_1053 (by decide) (fun c1 => ?_) (fun c1 => ?_)
                                    · have hr := br_n c1 hr
                                      refine lv_iconst (v := (0 : Int32)) hx hb dL_acts_1069 (by decide) ?_
                                      obtain ⟨e1, e2⟩ := Prod.mk.inj (Option.some.inj hr)
                                      rw [← e1, ← e2]
                                      exact zzret hx hb hr0 hlocks hW had (by decide) dL_acts_1070
                                    · have hr := br_p c1 hr
                                      refine lv_aload_n hx hb dL_acts_1056 rfl (lv_at hl 6 rfl) ?_
                                      obtain ⟨r_29, M_28, hc1057, hr⟩ := ob2_e hr
                                      refine xk_i (va_runV (As := []) (rest := []) ⟨hx, hb, hml, hown, hts⟩ (c_X10_wouldBe l D cA ad_24 M_25 hc1057) (cwV 0 hts gL_acts_X10_wouldBe rfl rfl rfl (by decide +kernel) ⟨Nat.le_of_ble_eq_true rfl, Nat.le_of_ble_eq_true rfl⟩) (xpreV hK hW (k := 224) rfl (by decide) rfl) rfl rfl hl.1 rfl (lv_room (Nat.le_of_ble_eq_true rfl)) dL_acts_1057 ⟨Nat.le_of_ble_eq_true rfl, Nat.le_of_ble_eq_true rfl⟩) hW (fun H locs hW => ?_)
                                      refine lv_iload hx hb dL_acts_1060 (lv_at hl 1 rfl) ?_
                                      refine lv_icmp_ne (tgt := 1069) hx hb dL_acts_1062 (by decide) (fun c1 => ?_) (fun c1 => ?_)
                                      · have hr := br_n c1 hr
                                        refine lv_iconst (v := (0 : Int32)) hx hb dL_acts_1069 (by decide) ?_
                                        obtain ⟨e1, e2⟩ := Prod.mk.inj (Option.some.inj hr)
                                        rw [← e1, ← e2]
                                        exact zzret hx hb hr0 hlocks hW had (by decide) dL_acts_1070
                                      · have hr := br_p c1 hr
                                        refine lv_iconst (v := (1 : Int32)) hx hb dL_acts_1065 (by decide) ?_
                                        refine lv_goto (tgt := 1070) hx hb dL_acts_1066 (by decide) ?_
                                        obtain ⟨e1, e2⟩ := Prod.mk.inj (Option.some.inj hr)
                                        rw [← e1, ← e2]
                                        exact zzret hx hb hr0 hlocks hW had (by decide) dL_acts_1070
                  · have hr := br_p c1 hr
                    refine lv_iload_n hx hb dL_acts_830 rfl (lv_at hl 5 rfl) ?_
                    refine lv_iconst (v := (2 : Int32)) hx hb dL_acts_831 (by decide) ?_
                    obtain ⟨r_30, hc832, hr⟩ := ob1_e hr
                    refine xk_i (va_runS (As := [.int x2, .int (2 : Int32)]) (rest := []) ⟨hx, hb, hml, hown, hts⟩ (c_L_low l D cA ad M x2 (2 : Int32) hc832) (va_cwS 2 hts gL_acts_L_low rfl rfl rfl (by decide +kernel) ⟨Nat.le_of_ble_eq_true rfl, Nat.le_of_ble_eq_true rfl⟩) (xpreS hK hW) rfl rfl hl.1 rfl (lv_room (Nat.le_of_ble_eq_true rfl)) dL_acts_832 ⟨Nat.le_of_ble_eq_true rfl, Nat.le_of_ble_eq_true rfl⟩) hW (fun H locs hW => ?_)
                    refine lv_istore (lv' := [(6, .int r_30), (5, .int r_3), (4, .int r_2), (3, .int r_1), (0, .ref (ad 224)), (1, .int x1), (2, .int x2)]) hx hb dL_acts_835 hl (by decide) rfl (fun ls hl => ?_)
                    refine lv_aload_n hx hb dL_acts_837 rfl (lv_at hl 4 rfl) ?_
                    refine lv_iconst (v := (3 : Int32)) hx hb dL_acts_838 (by decide) ?_
                    obtain ⟨r_31, hc839, hr⟩ := ob1_e hr
                    refine xk_i (va_runV (As := [.int (3 : Int32)]) (rest := []) ⟨hx, hb, hml, hown, hts⟩ (c_X10_total l D cA ad M (3 : Int32) hc839) (cwV 1 hts gL_acts_X10_total rfl rfl rfl (by decide +kernel) ⟨Nat.le_of_ble_eq_true rfl, Nat.le_of_ble_eq_true rfl⟩) (xpreV hK hW (k := 224) rfl (by decide) rfl) rfl rfl hl.1 rfl (lv_room (Nat.le_of_ble_eq_true rfl)) dL_acts_839 ⟨Nat.le_of_ble_eq_true rfl, Nat.le_of_ble_eq_true rfl⟩) hW (fun H locs hW => ?_)
                    refine lv_istore (lv' := [(7, .int r_31), (6, .int r_30), (5, .int r_3), (4, .int r_2), (3, .int r_1), (0, .ref (ad 224)), (1, .int x1), (2, .int x2)]) hx hb dL_acts_842 hl (by decide) rfl (fun ls hl => ?_)
                    refine lv_aload_n hx hb dL_acts_844 rfl (lv_at hl 5 rfl) ?_
                    obtain ⟨r_33, M_32, hc845, hr⟩ := ob2_e hr
                    refine xk_i (va_runV (As := []) (rest := []) ⟨hx, hb, hml, hown, hts⟩ (c_X10_wouldBe l D cA ad M hc845) (cwV 0 hts gL_acts_X10_wouldBe rfl rfl rfl (by decide +kernel) ⟨Nat.le_of_ble_eq_true rfl, Nat.le_of_ble_eq_true rfl⟩) (xpreV hK hW (k := 224) rfl (by decide) rfl) rfl rfl hl.1 rfl (lv_room (Nat.le_of_ble_eq_true rfl)) dL_acts_845 ⟨Nat.le_of_ble_eq_true rfl, Nat.le_of_ble_eq_true rfl⟩) hW (fun H locs hW => ?_)
                    refine lv_istore (lv' := [(8, .int r_33), (7, .int r_31), (6, .int r_30), (5, .int r_3), (4, .int r_2), (3, .int r_1), (0, .ref (ad 224)), (1, .int x1), (2, .int x2)]) hx hb dL_acts_848 hl (by decide) rfl (fun ls hl => ?_)
                    refine lv_aload_n hx hb dL_acts_850 rfl (lv_at hl 6 rfl) ?_
                    refine lv_iconst (v := (2 : Int32)) hx hb dL_acts_851 (by decide) ?_
                    obtain ⟨r_34, hc852, hr⟩ := ob1_e hr
                    refine xk_l (va_runV (As := [.int (2 : Int32)]) (rest := []) ⟨hx, hb, hml, hown, hts⟩ (c_X10_volume l D cA ad M_32 (2 : Int32) hc852) (cwV 1 hts gL_acts_X10_volume rfl rfl rfl (by decide +kernel) ⟨Nat.le_of_ble_eq_true rfl, Nat.le_of_ble_eq_true rfl⟩) (xpreV hK hW (k := 224) rfl (by decide) rfl) rfl rfl hl.1 rfl (lv_room (Nat.le_of_ble_eq_true rfl)) dL_acts_852 ⟨Nat.le_of_ble_eq_true rfl, Nat.le_of_ble_eq_true rfl⟩) hW (fun H locs hW => ?_)
                    refine lv_lstore (lv' := [(9, .long r_34), (8, .int r_33), (7, .int r_31), (6, .int r_30), (5, .int r_3), (4, .int r_2), (3, .int r_1), (0, .ref (ad 224)), (1, .int x1), (2, .int x2)]) hx hb dL_acts_855 hl (by decide) rfl (fun ls hl => ?_)
                    refine lv_aload_n hx hb dL_acts_857 rfl (lv_at hl 7 rfl) ?_
                    refine lv_iload hx hb dL_acts_858 (lv_at hl 3 rfl) ?_
                    obtain ⟨r_36, M_35, hc860, hr⟩ := ob2_e hr
                    refine xk_i (va_runV (As := [.int r_30]) (rest := []) ⟨hx, hb, hml, hown, hts⟩ (c_X10_save l D cA ad M_32 r_30 hc860) (cwV 1 hts gL_acts_X10_save rfl rfl rfl (by decide +kernel) ⟨Nat.le_of_ble_eq_true rfl, Nat.le_of_ble_eq_true rfl⟩) (xpreV hK hW (k := 224) rfl (by decide) rfl) rfl rfl hl.1 rfl (lv_room (Nat.le_of_ble_eq_true rfl)) dL_acts_860 ⟨Nat.le_of_ble_eq_true rfl, Nat.le_of_ble_eq_true rfl⟩) hW (fun H locs hW => ?_)
                    refine lv_iload hx hb dL_acts_863 (lv_at hl 2 rfl) ?_
                    refine lv_icmp_ne (tgt := 927) hx hb dL_acts_865 (by decide) (fun c1 => ?_) (fun c1 => ?_)
                    · have hr := br_n c1 hr
                      refine lv_iconst (v := (0 : Int32)) hx hb dL_acts_927 (by decide) ?_
                      obtain ⟨e1, e2⟩ := Prod.mk.inj (Option.some.inj hr)
                      rw [← e1, ← e2]
                      refine W.widen (k := 2) (n := 12) (Nat.le_of_ble_eq_true rfl) (Nat.le_of_ble_eq_true rfl) ?_
                      exact zzret hx hb hr0 hlocks hW adR_rf (by decide) dL_acts_928
                    · have hr := br_p c1 hr
                      refine lv_aload_n hx hb dL_acts_868 rfl (lv_at hl 7 rfl) ?_
                      obtain ⟨r_38, M_37, hc869, hr⟩ := ob2_e hr
                      refine xz_i (va_runS (As := [.ref (ad 224)]) (rest := []) ⟨hx, hb, hml, hown, hts⟩ (c_L_closes l D cA ad M_35 H.size hc869) (va_cwS 1 hts gL_acts_L_closes rfl rfl rfl (by decide +kernel) ⟨Nat.le_of_ble_eq_true rfl, Nat.le_of_ble_eq_true rfl⟩) (zpre hK hW) rfl rfl hl.1 rfl (lv_room (Nat.le_of_ble_eq_true rfl)) dL_acts_869 ⟨Nat.le_of_ble_eq_true rfl, Nat.le_of_ble_eq_true rfl⟩) hW hA (fun ad_39 H locs had2 hW => ?_)
                      rw [← had2.1 224 rfl] at hl
                      have had := had2
                      refine lv_if_eq (tgt := 927) hx hb dL_acts_872 (by decide) (fun c1 => ?_) (fun c1 => ?_)
                      · have hr := br_p c1 hr
                        refine lv_iconst (v := (0 : Int32)) hx hb dL_acts_927 (by decide) ?_
                        obtain ⟨e1, e2⟩ := Prod.mk.inj (Option.some.inj hr)
                        rw [← e1, ← e2]
                        exact zzret hx hb hr0 hlocks hW had (by decide) dL_acts_928
                      · have hr := br_n c1 hr
                        refine lv_aload_n hx hb dL_acts_875 rfl (lv_at hl 7 rfl) ?_
                        obtain ⟨r_41, M_40, hc876, hr⟩ := ob2_e hr
                        refine xc_i (va_runV (As := []) (rest := []) ⟨hx, hb, hml, hown, hts⟩ (c_X10_swap l D cA ad_39 M_37 hc876) (cwV 0 hts gL_acts_X10_swap rfl rfl rfl (by decide +kernel) ⟨Nat.le_of_ble_eq_true rfl, Nat.le_of_ble_eq_true rfl⟩) (xpreV hK hW (k := 224) rfl (by decide) rfl) rfl rfl hl.1 rfl (lv_room (Nat.le_of_ble_eq_true rfl)) dL_acts_876 ⟨Nat.le_of_ble_eq_true rfl, Nat.le_of_ble_eq_true rfl⟩) hW (fun ad_42 H locs had2 hW => ?_)
                        rw [← had2.1 224 rfl] at hl
                        have had := adR_tr had had2
                        refine lv_if_lt (tgt := 927) hx hb dL_acts_879 (by decide) (fun c1 => ?_) (fun c1 => ?_)
                        · have hr := br_p c1 hr
                          refine lv_iconst (v := (0 : Int32)) hx hb dL_acts_927 (by decide) ?_
                          obtain ⟨e1, e2⟩ := Prod.mk.inj (Option.some.inj hr)
                          rw [← e1, ← e2]
                          exact zzret hx hb hr0 hlocks hW had (by decide) dL_acts_928
                        · have hr := br_n c1 hr
                          refine lv_aload_n hx hb dL_acts_882 rfl (lv_at hl 7 rfl) ?_
                          refine lv_iload hx hb dL_acts_883 (lv_at hl 3 rfl) ?_
                          obtain ⟨r_44, M_43, hc885, hr⟩ := ob2_e hr
                          refine xc_i (va_runV (As := [.int r_30]) (rest := []) ⟨hx, hb, hml, hown, hts⟩ (c_X10_restore l D cA ad_42 M_40 r_30 hc885) (cwV 1 hts gL_acts_X10_restore rfl rfl rfl (by decide +kernel) ⟨Nat.le_of_ble_eq_true rfl, Nat.le_of_ble_eq_true rfl⟩) (xpreV hK hW (k := 224) rfl (by decide) rfl) rfl rfl hl.1 rfl (lv_room (Nat.le_of_ble_eq_true rfl)) dL_acts_885 ⟨Nat.le_of_ble_eq_true rfl, Nat.le_of_ble_eq_true rfl⟩) hW (fun ad_45 H locs had2 hW => ?_)
                          rw [← had2.1 224 rfl] at hl
                          have had := adR_tr had had2
                          refine lv_iload hx hb dL_acts_888 (lv_at hl 2 rfl) ?_
                          refine lv_icmp_ne (tgt := 927) hx hb dL_acts_890 (by decide) (fun c1 => ?_) (fun c1 => ?_)
                          · have hr := br_n c1 hr
                            refine lv_iconst (v := (0 : Int32)) hx hb dL_acts_927 (by decide) ?_
                            obtain ⟨e1, e2⟩ := Prod.mk.inj (Option.some.inj hr)
                            rw [← e1, ← e2]
                            exact zzret hx hb hr0 hlocks hW had (by decide) dL_acts_928
                          · have hr := br_p c1 hr
                            refine lv_aload_n hx hb dL_acts_893 rfl (lv_at hl 7 rfl) ?_
                            obtain ⟨r_47, M_46, hc894, hr⟩ := ob2_e hr
                            refine xk_i (va_runV (As := []) (rest := []) ⟨hx, hb, hml, hown, hts⟩ (c_X10_wouldBe l D cA ad_45 M_43 hc894) (cwV 0 hts gL_acts_X10_wouldBe rfl rfl rfl (by decide +kernel) ⟨Nat.le_of_ble_eq_true rfl, Nat.le_of_ble_eq_true rfl⟩) (xpreV hK hW (k := 224) rfl (by decide) rfl) rfl rfl hl.1 rfl (lv_room (Nat.le_of_ble_eq_true rfl)) dL_acts_894 ⟨Nat.le_of_ble_eq_true rfl, Nat.le_of_ble_eq_true rfl⟩) hW (fun H locs hW => ?_)
                            refine lv_iload hx hb dL_acts_897 (lv_at hl 1 rfl) ?_
                            refine lv_icmp_ne (tgt := 927) hx hb dL_acts_899 (by decide) (fun c1 => ?_) (fun c1 => ?_)
                            · have hr := br_n c1 hr
                              refine lv_iconst (v := (0 : Int32)) hx hb dL_acts_927 (by decide) ?_
                              obtain ⟨e1, e2⟩ := Prod.mk.inj (Option.some.inj hr)
                              rw [← e1, ← e2]
                              exact zzret hx hb hr0 hlocks hW had (by decide) dL_acts_928
                            · have hr := br_p c1 hr
                              refine lv_aload_n hx hb dL_acts_902 rfl (lv_at hl 7 rfl) ?_
                              refine lv_iconst (v := (2 : Int32)) hx hb dL_acts_903 (by decide) ?_
                              obtain ⟨r_48, hc904, hr⟩ := ob1_e hr
                              refine xk_l (va_runV (As := [.int (2 : Int32)]) (rest := []) ⟨hx, hb, hml, hown, hts⟩ (c_X10_volume l D cA ad_45 M_46 (2 : Int32) hc904) (cwV 1 hts gL_acts_X10_volume rfl rfl rfl (by decide +kernel) ⟨Nat.le_of_ble_eq_true rfl, Nat.le_of_ble_eq_true rfl⟩) (xpreV hK hW (k := 224) rfl (by decide) rfl) rfl rfl hl.1 rfl (lv_room (Nat.le_of_ble_eq_true rfl)) dL_acts_904 ⟨Nat.le_of_ble_eq_true rfl, Nat.le_of_ble_eq_true rfl⟩) hW (fun H locs hW => ?_)
                              refine lv_lload hx hb dL_acts_907 (lv_at hl 0 rfl) ?_
                              refine xlc_ne (tgt := 927) hx hb dL_acts_909 dL_acts_910 (by decide) (fun c1 => ?_) (fun c1 => ?_)
                              · have hr := br_n c1 hr
                                refine lv_iconst (v := (0 : Int32)) hx hb dL_acts_927 (by decide) ?_
                                obtain ⟨e1, e2⟩ := Prod.mk.inj (Option.some.inj hr)
                                rw [← e1, ← e2]
                                exact zzret hx hb hr0 hlocks hW had (by decide) dL_acts_928
                              · have hr := br_p c1 hr
                                refine lv_aload_n hx hb dL_acts_913 rfl (lv_at hl 7 rfl) ?_
                                refine lv_iconst (v := (2 : Int32)) hx hb dL_acts_914 (by decide) ?_
                                obtain ⟨r_50, M_49, hc915, hr⟩ := ob2_e hr
                                refine xk_i (va_runV (As := [.int (2 : Int32)]) (rest := []) ⟨hx, hb, hml, hown, hts⟩ (c_X10_save l D cA ad_45 M_46 (2 : Int32) hc915) (cwV 1 hts gL_acts_X10_save rfl rfl rfl (by decide +kernel) ⟨Nat.le_of_ble_eq_true rfl, Nat.le_of_ble_eq_true rfl⟩) (xpreV hK hW (k := 224) rfl (by decide) rfl) rfl rfl hl.1 rfl (lv_room (Nat.le_of_ble_eq_true rfl)) dL_acts_915 ⟨Nat.le_of_ble_eq_true rfl, Nat.le_of_ble_eq_true rfl⟩) hW (fun H locs hW => ?_)
                                refine lv_ldc (v := (-2000000001 : Int32)) hx hb hown (hts _ (wm 4 rfl)) dL_acts_918 ?_
                                refine lv_icmp_ne (tgt := 927) hx hb dL_acts_920 (by decide) (fun c1 => ?_) (fun c1 => ?_)
                                · have hr := br_n c1 hr
                                  refine lv_iconst (v := (0 : Int32)) hx hb dL_acts_927 (by decide) ?_
                                  obtain ⟨e1, e2⟩ := Prod.mk.inj (Option.some.inj hr)
                                  rw [← e1, ← e2]
                                  exact zzret hx hb hr0 hlocks hW had (by decide) dL_acts_928
                                · have hr := br_p c1 hr
                                  refine lv_iconst (v := (1 : Int32)) hx hb dL_acts_923 (by decide) ?_
                                  refine lv_goto (tgt := 928) hx hb dL_acts_924 (by decide) ?_
                                  obtain ⟨e1, e2⟩ := Prod.mk.inj (Option.some.inj hr)
                                  rw [← e1, ← e2]
                                  exact zzret hx hb hr0 hlocks hW had (by decide) dL_acts_928
                · have hr := br_p c1 hr
                  refine lv_aload_n hx hb dL_acts_716 rfl (lv_at hl 3 rfl) ?_
                  refine lv_iload hx hb dL_acts_717 (lv_at hl 0 rfl) ?_
                  refine lv_iconst (v := (5 : Int32)) hx hb dL_acts_719 (by decide) ?_
                  obtain ⟨r_51, hc720, hr⟩ := ob1_e hr
                  refine xk_i (va_runV (As := [.int r_3, .int (5 : Int32)]) (rest := []) ⟨hx, hb, hml, hown, hts⟩ (c_X10_path l D cA ad M r_3 (5 : Int32) hc720) (cwV 2 hts gL_acts_X10_path rfl rfl rfl (by decide +kernel) ⟨Nat.le_of_ble_eq_true rfl, Nat.le_of_ble_eq_true rfl⟩) (xpreV hK hW (k := 224) rfl (by decide) rfl) rfl rfl hl.1 rfl (lv_room (Nat.le_of_ble_eq_true rfl)) dL_acts_720 ⟨Nat.le_of_ble_eq_true rfl, Nat.le_of_ble_eq_true rfl⟩) hW (fun H locs hW => ?_)
                  refine lv_ldc (v := (-2000000005 : Int32)) hx hb hown (hts _ (wm 1 rfl)) dL_acts_723 ?_
                  obtain ⟨y_52, hr, hr3⟩ := ob1_e hr
                  have hj733_52 : ∀ (H : Heap) (locs : List Loc) (ls : Array Slot), Xw D true cA ad M (AZ ad s.heap.size) s.heap H locs → lv_has ls 12 [(5, .int r_3), (0, .ref (ad 224)), (2, .int x2)] → W p l e (headSpec wsL_acts { frames := 7, cells := 2, slots := 12, locals := 183 }).room s m args below meth c H locs 0 0 (MQ below (QiZ D cA ad s.heap.size r M') args s 2 12 (AZ ad s.heap.size)) (F0 m 733 ls [.int y_52]) := by
                    intro H locs ls hW hl
                    have hr := hr3
                    refine lv_istore (lv' := [(6, .int y_52), (5, .int r_3), (0, .ref (ad 224)), (2, .int x2)]) hx hb dL_acts_733 hl (by decide) rfl (fun ls hl => ?_)
                    refine lv_aload_n hx hb dL_acts_735 rfl (lv_at hl 2 rfl) ?_
                    refine lv_iload hx hb dL_acts_736 (lv_at hl 1 rfl) ?_
                    obtain ⟨r_54, M_53, hc738, hr⟩ := ob2_e hr
                    refine xc_i (va_runV (As := [.int r_3]) (rest := []) ⟨hx, hb, hml, hown, hts⟩ (c_X10_forget l D cA ad M r_3 hc738) (cwV 1 hts gL_acts_X10_forget rfl rfl rfl (by decide +kernel) ⟨Nat.le_of_ble_eq_true rfl, Nat.le_of_ble_eq_true rfl⟩) (xpreV hK hW (k := 224) rfl (by decide) rfl) rfl rfl hl.1 rfl (lv_room (Nat.le_of_ble_eq_true rfl)) dL_acts_738 ⟨Nat.le_of_ble_eq_true rfl, Nat.le_of_ble_eq_true rfl⟩) hW (fun ad_55 H locs had2 hW => ?_)
                    rw [← had2.1 224 rfl] at hl
                    have had := had2
                    refine lv_iload hx hb dL_acts_741 (lv_at hl 0 rfl) ?_
                    refine lv_icmp_ne (tgt := 822) hx hb dL_acts_743 (by decide) (fun c1 => ?_) (fun c1 => ?_)
                    · have hr := br_n c1 hr
                      refine lv_iconst (v := (0 : Int32)) hx hb dL_acts_822 (by decide) ?_
                      obtain ⟨e1, e2⟩ := Prod.mk.inj (Option.some.inj hr)
                      rw [← e1, ← e2]
                      refine W.widen (k := 2) (n := 12) (Nat.le_of_ble_eq_true rfl) (Nat.le_of_ble_eq_true rfl) ?_
                      exact zzret hx hb hr0 hlocks hW had (by decide) dL_acts_823
                    · have hr := br_p c1 hr
                      refine lv_aload_n hx hb dL_acts_746 rfl (lv_at hl 2 rfl) ?_
                      refine lv_iload hx hb dL_acts_747 (lv_at hl 1 rfl) ?_
                      refine lv_iconst (v := (5 : Int32)) hx hb dL_acts_749 (by decide) ?_
                      obtain ⟨r_56, hc750, hr⟩ := ob1_e hr
                      refine xk_i (va_runV (As := [.int r_3, .int (5 : Int32)]) (rest := []) ⟨hx, hb, hml, hown, hts⟩ (c_X10_path l D cA ad_55 M_53 r_3 (5 : Int32) hc750) (cwV 2 hts gL_acts_X10_path rfl rfl rfl (by decide +kernel) ⟨Nat.le_of_ble_eq_true rfl, Nat.le_of_ble_eq_true rfl⟩) (xpreV hK hW (k := 224) rfl (by decide) rfl) rfl rfl hl.1 rfl (lv_room (Nat.le_of_ble_eq_true rfl)) dL_acts_750 ⟨Nat.le_of_ble_eq_true rfl, Nat.le_of_ble_eq_true rfl⟩) hW (fun H locs hW => ?_)
                      refine lv_ldc (v := (-2000000005 : Int32)) hx hb hown (hts _ (wm 1 rfl)) dL_acts_753 ?_
                      refine lv_icmp_ne (tgt := 822) hx hb dL_acts_755 (by decide) (fun c1 => ?_) (fun c1 => ?_)
                      · have hr := br_n c1 hr
                        refine lv_iconst (v := (0 : Int32)) hx hb dL_acts_822 (by decide) ?_
                        obtain ⟨e1, e2⟩ := Prod.mk.inj (Option.some.inj hr)
                        rw [← e1, ← e2]
                        refine W.widen (k := 2) (n := 12) (Nat.le_of_ble_eq_true rfl) (Nat.le_of_ble_eq_true rfl) ?_
                        exact zzret hx hb hr0 hlocks hW had (by decide) dL_acts_823
                      · have hr := br_p c1 hr
                        refine lv_aload_n hx hb dL_acts_758 rfl (lv_at hl 2 rfl) ?_
                        refine lv_iload hx hb dL_acts_759 (lv_at hl 1 rfl) ?_
                        refine lv_bipush (v := (7 : Int32)) hx hb dL_acts_761 (by decide) ?_
                        obtain ⟨r_57, hc763, hr⟩ := ob1_e hr
                        refine xk_i (va_runV (As := [.int r_3, .int (7 : Int32)]) (rest := []) ⟨hx, hb, hml, hown, hts⟩ (c_X10_path l D cA ad_55 M_53 r_3 (7 : Int32) hc763) (cwV 2 hts gL_acts_X10_path rfl rfl rfl (by decide +kernel) ⟨Nat.le_of_ble_eq_true rfl, Nat.le_of_ble_eq_true rfl⟩) (xpreV hK hW (k := 224) rfl (by decide) rfl) rfl rfl hl.1 rfl (lv_room (Nat.le_of_ble_eq_true rfl)) dL_acts_763 ⟨Nat.le_of_ble_eq_true rfl, Nat.le_of_ble_eq_true rfl⟩) hW (fun H locs hW => ?_)
                        refine lv_ldc (v := (-2000000005 : Int32)) hx hb hown (hts _ (wm 1 rfl)) dL_acts_766 ?_
                        refine lv_icmp_ne (tgt := 822) hx hb dL_acts_768 (by decide) (fun c1 => ?_) (fun c1 => ?_)
                        · have hr := br_n c1 hr
                          refine lv_iconst (v := (0 : Int32)) hx hb dL_acts_822 (by decide) ?_
                          obtain ⟨e1, e2⟩ := Prod.mk.inj (Option.some.inj hr)
                          rw [← e1, ← e2]
                          refine W.widen (k := 2) (n := 12) (Nat.le_of_ble_eq_true rfl) (Nat.le_of_ble_eq_true rfl) ?_
                          exact zzret hx hb hr0 hlocks hW had (by decide) dL_acts_823
                        · have hr := br_p c1 hr
                          refine lv_iload_n hx hb dL_acts_771 rfl (lv_at hl 3 rfl) ?_
                          refine lv_iconst (v := (4 : Int32)) hx hb dL_acts_772 (by decide) ?_
                          refine lv_ishr hx hb dL_acts_773 ?_
                          refine lv_iconst (v := (2 : Int32)) hx hb dL_acts_774 (by decide) ?_
                          obtain ⟨r_58, hc775, hr⟩ := ob1_e hr
                          refine xk_i (va_runS (As := [.int (x2 >>> ((4 : Int32) &&& 31)), .int (2 : Int32)]) (rest := []) ⟨hx, hb, hml, hown, hts⟩ (c_L_low l D cA ad_55 M_53 (x2 >>> ((4 : Int32) &&& 31)) (2 : Int32) hc775) (va_cwS 2 hts gL_acts_L_low rfl rfl rfl (by decide +kernel) ⟨Nat.le_of_ble_eq_true rfl, Nat.le_of_ble_eq_true rfl⟩) (xpreS hK hW) rfl rfl hl.1 rfl (lv_room (Nat.le_of_ble_eq_true rfl)) dL_acts_775 ⟨Nat.le_of_ble_eq_true rfl, Nat.le_of_ble_eq_true rfl⟩) hW (fun H locs hW => ?_)
                          refine lv_if_eq (tgt := 818) hx hb dL_acts_778 (by decide) (fun c1 => ?_) (fun c1 => ?_)
                          · have hr := br_p c1 hr
                            refine lv_iconst (v := (1 : Int32)) hx hb dL_acts_818 (by decide) ?_
                            refine lv_goto (tgt := 823) hx hb dL_acts_819 (by decide) ?_
                            obtain ⟨e1, e2⟩ := Prod.mk.inj (Option.some.inj hr)
                            rw [← e1, ← e2]
                            refine W.widen (k := 2) (n := 12) (Nat.le_of_ble_eq_true rfl) (Nat.le_of_ble_eq_true rfl) ?_
                            exact zzret hx hb hr0 hlocks hW had (by decide) dL_acts_823
                          · have hr := br_n c1 hr
                            refine lv_aload_n hx hb dL_acts_781 rfl (lv_at hl 2 rfl) ?_
                            obtain ⟨r_60, M_59, hc782, hr⟩ := ob2_e hr
                            refine xk_i (va_runV (As := []) (rest := []) ⟨hx, hb, hml, hown, hts⟩ (c_X10_undo l D cA ad_55 M_53 hc782) (cwV 0 hts gL_acts_X10_undo rfl rfl rfl (by decide +kernel) ⟨Nat.le_of_ble_eq_true rfl, Nat.le_of_ble_eq_true rfl⟩) (xpreV hK hW (k := 224) rfl (by decide) rfl) rfl rfl hl.1 rfl (lv_room (Nat.le_of_ble_eq_true rfl)) dL_acts_782 ⟨Nat.le_of_ble_eq_true rfl, Nat.le_of_ble_eq_true rfl⟩) hW (fun H locs hW => ?_)
                            refine lv_if_lt (tgt := 822) hx hb dL_acts_785 (by decide) (fun c1 => ?_) (fun c1 => ?_)
                            · have hr := br_p c1 hr
                              refine lv_iconst (v := (0 : Int32)) hx hb dL_acts_822 (by decide) ?_
                              obtain ⟨e1, e2⟩ := Prod.mk.inj (Option.some.inj hr)
                              rw [← e1, ← e2]
                              refine W.widen (k := 2) (n := 12) (Nat.le_of_ble_eq_true rfl) (Nat.le_of_ble_eq_true rfl) ?_
                              exact zzret hx hb hr0 hlocks hW had (by decide) dL_acts_823
                            · have hr := br_n c1 hr
                              refine lv_aload_n hx hb dL_acts_788 rfl (lv_at hl 2 rfl) ?_
                              refine lv_iload hx hb dL_acts_789 (lv_at hl 1 rfl) ?_
                              refine lv_iconst (v := (5 : Int32)) hx hb dL_acts_791 (by decide) ?_
                              obtain ⟨r_61, hc792, hr⟩ := ob1_e hr
                              refine xk_i (va_runV (As := [.int r_3, .int (5 : Int32)]) (rest := []) ⟨hx, hb, hml, hown, hts⟩ (c_X10_path l D cA ad_55 M_59 r_3 (5 : Int32) hc792) (cwV 2 hts gL_acts_X10_path rfl rfl rfl (by decide +kernel) ⟨Nat.le_of_ble_eq_true rfl, Nat.le_of_ble_eq_true rfl⟩) (xpreV hK hW (k := 224) rfl (by decide) rfl) rfl rfl hl.1 rfl (lv_room (Nat.le_of_ble_eq_true rfl)) dL_acts_792 ⟨Nat.le_of_ble_eq_true rfl, Nat.le_of_ble_eq_true rfl⟩) hW (fun H locs hW => ?_)
                              refine lv_ldc (v := (-2000000005 : Int32)) hx hb hown (hts _ (wm 1 rfl)) dL_acts_795 ?_
                              obtain ⟨y_62, hr, hr3⟩ := ob1_e hr
                              have hj805_62 : ∀ (H : Heap) (locs : List Loc) (ls : Array Slot), Xw D true cA ad_55 M_59 (AZ ad s.heap.size) s.heap H locs → lv_has ls 12 [(6, .int y_52)] → W p l e (headSpec wsL_acts { frames := 7, cells := 2, slots := 12, locals := 183 }).room s m args below meth c H locs 0 0 (MQ below (QiZ D cA ad s.heap.size r M') args s 2 12 (AZ ad s.heap.size)) (F0 m 805 ls [.int y_62]) := by
                                intro H locs ls hW hl
                                have hr := hr3
                                refine lv_iload hx hb dL_acts_805 (lv_at hl 0 rfl) ?_
                                obtain ⟨y_63, hr, hr3⟩ := ob1_e hr
                                have hj815_63 : ∀ (H : Heap) (locs : List Loc) (ls : Array Slot), Xw D true cA ad_55 M_59 (AZ ad s.heap.size) s.heap H locs → lv_has ls 12 [] → W p l e (headSpec wsL_acts { frames := 7, cells := 2, slots := 12, locals := 183 }).room s m args below meth c H locs 0 0 (MQ below (QiZ D cA ad s.heap.size r M') args s 2 12 (AZ ad s.heap.size)) (F0 m 815 ls [.int y_63, .int y_62]) := by
                                  intro H locs ls hW hl
                                  have hr := hr3
                                  refine lv_icmp_ne (tgt := 822) hx hb dL_acts_815 (by decide) (fun c1 => ?_) (fun c1 => ?_)
                                  · have hr := br_n c1 hr
                                    refine lv_iconst (v := (0 : Int32)) hx hb dL_acts_822 (by decide) ?_
                                    obtain ⟨e1, e2⟩ := Prod.mk.inj (Option.some.inj hr)
                                    rw [← e1, ← e2]
                                    refine W.widen (k := 2) (n := 12) (Nat.le_of_ble_eq_true rfl) (Nat.le_of_ble_eq_true rfl) ?_
                                    exact zzret hx hb hr0 hlocks hW had (by decide) dL_acts_823
                                  · have hr := br_p c1 hr
                                    refine lv_iconst (v := (1 : Int32)) hx hb dL_acts_818 (by decide) ?_
                                    refine lv_goto (tgt := 823) hx hb dL_acts_819 (by decide) ?_
                                    obtain ⟨e1, e2⟩ := Prod.mk.inj (Option.some.inj hr)
                                    rw [← e1, ← e2]
                                    refine W.widen (k := 2) (n := 12) (Nat.le_of_ble_eq_true rfl) (Nat.le_of_ble_eq_true rfl) ?_
                                    exact zzret hx hb hr0 hlocks hW had (by decide) dL_acts_823
                                clear hr3
                                refine lv_if_ne (tgt := 814) hx hb dL_acts_807 (by decide) (fun c1 => ?_) (fun c1 => ?_)
                                · have hr := br_n c1 hr
                                  refine lv_iconst (v := (0 : Int32)) hx hb dL_acts_814 (by decide) ?_
                                  have e1 := Option.some.inj hr
                                  subst e1
                                  exact hj815_63 _ _ _ hW (lv_sub hl [] rfl)
                                · have hr := br_p c1 hr
                                  refine lv_iconst (v := (1 : Int32)) hx hb dL_acts_810 (by decide) ?_
                                  refine lv_goto (tgt := 815) hx hb dL_acts_811 (by decide) ?_
                                  have e1 := Option.some.inj hr
                                  subst e1
                                  exact hj815_63 _ _ _ hW (lv_sub hl [] rfl)
                              clear hr3
                              refine lv_icmp_ne (tgt := 804) hx hb dL_acts_797 (by decide) (fun c1 => ?_) (fun c1 => ?_)
                              · have hr := br_n c1 hr
                                refine lv_iconst (v := (0 : Int32)) hx hb dL_acts_804 (by decide) ?_
                                have e1 := Option.some.inj hr
                                subst e1
                                exact hj805_62 _ _ _ hW (lv_sub hl [0] rfl)
                              · have hr := br_p c1 hr
                                refine lv_iconst (v := (1 : Int32)) hx hb dL_acts_800 (by decide) ?_
                                refine lv_goto (tgt := 805) hx hb dL_acts_801 (by decide) ?_
                                have e1 := Option.some.inj hr
                                subst e1
                                exact hj805_62 _ _ _ hW (lv_sub hl [0] rfl)
                  clear hr3
                  refine lv_icmp_ne (tgt := 732) hx hb dL_acts_725 (by decide) (fun c1 => ?_) (fun c1 => ?_)
                  · have hr := br_n c1 hr
                    refine lv_iconst (v := (1 : Int32)) hx hb dL_acts_732 (by decide) ?_
                    have e1 := Option.some.inj hr
                    subst e1
                    exact hj733_52 _ _ _ hW (lv_sub hl [0, 3, 5] rfl)
                  · have hr := br_p c1 hr
                    refine lv_iconst (v := (0 : Int32)) hx hb dL_acts_728 (by decide) ?_
                    refine lv_goto (tgt := 733) hx hb dL_acts_729 (by decide) ?_
                    have e1 := Option.some.inj hr
                    subst e1
                    exact hj733_52 _ _ _ hW (lv_sub hl [0, 3, 5] rfl)
              · have hr := br_p c1 hr
                refine lv_iconst (v := (1 : Int32)) hx hb dL_acts_633 (by decide) ?_
                refine lv_iload_n hx hb dL_acts_634 rfl (lv_at hl 5 rfl) ?_
                refine lv_iconst (v := (3 : Int32)) hx hb dL_acts_635 (by decide) ?_
                refine lv_ishr hx hb dL_acts_636 ?_
                refine lv_sipush (v := (1000 : Int32)) hx hb dL_acts_637 (by decide) ?_
                obtain ⟨r_64, hc640, hr⟩ := ob1_e hr
                refine xk_i (va_runS (As := [.int (x2 >>> ((3 : Int32) &&& 31)), .int (1000 : Int32)]) (rest := [.int (1 : Int32)]) ⟨hx, hb, hml, hown, hts⟩ (c_L_low l D cA ad M (x2 >>> ((3 : Int32) &&& 31)) (1000 : Int32) hc640) (va_cwS 2 hts gL_acts_L_low rfl rfl rfl (by decide +kernel) ⟨Nat.le_of_ble_eq_true rfl, Nat.le_of_ble_eq_true rfl⟩) (xpreS hK hW) rfl rfl hl.1 rfl (lv_room (Nat.le_of_ble_eq_true rfl)) dL_acts_640 ⟨Nat.le_of_ble_eq_true rfl, Nat.le_of_ble_eq_true rfl⟩) hW (fun H locs hW => ?_)
                refine lv_iadd hx hb dL_acts_643 ?_
                obtain ⟨x6_65, ex6_65, hr⟩ := lt1_e hr
                rw [← ex6_65]
                refine lv_istore (lv' := [(6, .int x6_65), (5, .int r_3), (4, .int r_2), (3, .int r_1), (0, .ref (ad 224)), (1, .int x1), (2, .int x2)]) hx hb dL_acts_644 hl (by decide) rfl (fun ls hl => ?_)
                refine lv_aload_n hx hb dL_acts_646 rfl (lv_at hl 4 rfl) ?_
                refine lv_iload hx hb dL_acts_647 (lv_at hl 1 rfl) ?_
                refine lv_iconst (v := (2 : Int32)) hx hb dL_acts_649 (by decide) ?_
                obtain ⟨r_66, hc650, hr⟩ := ob1_e hr
                refine xk_i (va_runV (As := [.int r_3, .int (2 : Int32)]) (rest := []) ⟨hx, hb, hml, hown, hts⟩ (c_X10_path l D cA ad M r_3 (2 : Int32) hc650) (cwV 2 hts gL_acts_X10_path rfl rfl rfl (by decide +kernel) ⟨Nat.le_of_ble_eq_true rfl, Nat.le_of_ble_eq_true rfl⟩) (xpreV hK hW (k := 224) rfl (by decide) rfl) rfl rfl hl.1 rfl (lv_room (Nat.le_of_ble_eq_true rfl)) dL_acts_650 ⟨Nat.le_of_ble_eq_true rfl, Nat.le_of_ble_eq_true rfl⟩) hW (fun H locs hW => ?_)
                refine lv_istore (lv' := [(7, .int r_66), (6, .int x6_65), (5, .int r_3), (4, .int r_2), (3, .int r_1), (0, .ref (ad 224)), (1, .int x1), (2, .int x2)]) hx hb dL_acts_653 hl (by decide) rfl (fun ls hl => ?_)
                refine lv_aload_n hx hb dL_acts_655 rfl (lv_at hl 5 rfl) ?_
                refine lv_iload hx hb dL_acts_656 (lv_at hl 2 rfl) ?_
                refine lv_iload hx hb dL_acts_658 (lv_at hl 1 rfl) ?_
                obtain ⟨r_68, M_67, hc660, hr⟩ := ob2_e hr
                refine xc_i (va_runV (As := [.int r_3, .int x6_65]) (rest := []) ⟨hx, hb, hml, hown, hts⟩ (c_X10_setWeight l D cA ad M r_3 x6_65 hc660) (cwV 2 hts gL_acts_X10_setWeight rfl rfl rfl (by decide +kernel) ⟨Nat.le_of_ble_eq_true rfl, Nat.le_of_ble_eq_true rfl⟩) (xpreV hK hW (k := 224) rfl (by decide) rfl) rfl rfl hl.1 rfl (lv_room (Nat.le_of_ble_eq_true rfl)) dL_acts_660 ⟨Nat.le_of_ble_eq_true rfl, Nat.le_of_ble_eq_true rfl⟩) hW (fun ad_69 H locs had2 hW => ?_)
                rw [← had2.1 224 rfl] at hl
                have had := had2
                refine lv_iload hx hb dL_acts_663 (lv_at hl 0 rfl) ?_
                refine lv_icmp_ne (tgt := 708) hx hb dL_acts_665 (by decide) (fun c1 => ?_) (fun c1 => ?_)
                · have hr := br_n c1 hr
                  refine lv_iconst (v := (0 : Int32)) hx hb dL_acts_708 (by decide) ?_
                  obtain ⟨e1, e2⟩ := Prod.mk.inj (Option.some.inj hr)
                  rw [← e1, ← e2]
                  refine W.widen (k := 2) (n := 12) (Nat.le_of_ble_eq_true rfl) (Nat.le_of_ble_eq_true rfl) ?_
                  exact zzret hx hb hr0 hlocks hW had (by decide) dL_acts_709
                · have hr := br_p c1 hr
                  refine lv_aload_n hx hb dL_acts_668 rfl (lv_at hl 5 rfl) ?_
                  refine lv_iload hx hb dL_acts_669 (lv_at hl 2 rfl) ?_
                  refine lv_iconst (v := (2 : Int32)) hx hb dL_acts_671 (by decide) ?_
                  obtain ⟨r_70, hc672, hr⟩ := ob1_e hr
                  refine xk_i (va_runV (As := [.int r_3, .int (2 : Int32)]) (rest := []) ⟨hx, hb, hml, hown, hts⟩ (c_X10_path l D cA ad_69 M_67 r_3 (2 : Int32) hc672) (cwV 2 hts gL_acts_X10_path rfl rfl rfl (by decide +kernel) ⟨Nat.le_of_ble_eq_true rfl, Nat.le_of_ble_eq_true rfl⟩) (xpreV hK hW (k := 224) rfl (by decide) rfl) rfl rfl hl.1 rfl (lv_room (Nat.le_of_ble_eq_true rfl)) dL_acts_672 ⟨Nat.le_of_ble_eq_true rfl, Nat.le_of_ble_eq_true rfl⟩) hW (fun H locs hW => ?_)
                  refine lv_iload hx hb dL_acts_675 (lv_at hl 1 rfl) ?_
                  refine lv_icmp_ne (tgt := 708) hx hb dL_acts_677 (by decide) (fun c1 => ?_) (fun c1 => ?_)
                  · have hr := br_n c1 hr
                    refine lv_iconst (v := (0 : Int32)) hx hb dL_acts_708 (by decide) ?_
                    obtain ⟨e1, e2⟩ := Prod.mk.inj (Option.some.inj hr)
                    rw [← e1, ← e2]
                    refine W.widen (k := 2) (n := 12) (Nat.le_of_ble_eq_true rfl) (Nat.le_of_ble_eq_true rfl) ?_
                    exact zzret hx hb hr0 hlocks hW had (by decide) dL_acts_709
                  · have hr := br_p c1 hr
                    refine lv_aload_n hx hb dL_acts_680 rfl (lv_at hl 5 rfl) ?_
                    refine lv_iload hx hb dL_acts_681 (lv_at hl 3 rfl) ?_
                    refine lv_iconst (v := (1 : Int32)) hx hb dL_acts_683 (by decide) ?_
                    obtain ⟨r_72, M_71, hc684, hr⟩ := ob2_e hr
                    refine xc_i (va_runV (As := [.int r_2, .int (1 : Int32)]) (rest := []) ⟨hx, hb, hml, hown, hts⟩ (c_X10_setWeight l D cA ad_69 M_67 r_2 (1 : Int32) hc684) (cwV 2 hts gL_acts_X10_setWeight rfl rfl rfl (by decide +kernel) ⟨Nat.le_of_ble_eq_true rfl, Nat.le_of_ble_eq_true rfl⟩) (xpreV hK hW (k := 224) rfl (by decide) rfl) rfl rfl hl.1 rfl (lv_room (Nat.le_of_ble_eq_true rfl)) dL_acts_684 ⟨Nat.le_of_ble_eq_true rfl, Nat.le_of_ble_eq_true rfl⟩) hW (fun ad_73 H locs had2 hW => ?_)
                    rw [← had2.1 224 rfl] at hl
                    have had := adR_tr had had2
                    refine lv_ldc (v := (-2000000001 : Int32)) hx hb hown (hts _ (wm 4 rfl)) dL_acts_687 ?_
                    refine lv_icmp_ne (tgt := 708) hx hb dL_acts_689 (by decide) (fun c1 => ?_) (fun c1 => ?_)
                    · have hr := br_n c1 hr
                      refine lv_iconst (v := (0 : Int32)) hx hb dL_acts_708 (by decide) ?_
                      obtain ⟨e1, e2⟩ := Prod.mk.inj (Option.some.inj hr)
                      rw [← e1, ← e2]
                      refine W.widen (k := 2) (n := 12) (Nat.le_of_ble_eq_true rfl) (Nat.le_of_ble_eq_true rfl) ?_
                      exact zzret hx hb hr0 hlocks hW had (by decide) dL_acts_709
                    · have hr := br_p c1 hr
                      refine lv_aload_n hx hb dL_acts_692 rfl (lv_at hl 5 rfl) ?_
                      refine lv_iload hx hb dL_acts_693 (lv_at hl 2 rfl) ?_
                      refine lv_iconst (v := (0 : Int32)) hx hb dL_acts_695 (by decide) ?_
                      obtain ⟨r_75, M_74, hc696, hr⟩ := ob2_e hr
                      refine xc_i (va_runV (As := [.int r_3, .int (0 : Int32)]) (rest := []) ⟨hx, hb, hml, hown, hts⟩ (c_X10_setWeight l D cA ad_73 M_71 r_3 (0 : Int32) hc696) (cwV 2 hts gL_acts_X10_setWeight rfl rfl rfl (by decide +kernel) ⟨Nat.le_of_ble_eq_true rfl, Nat.le_of_ble_eq_true rfl⟩) (xpreV hK hW (k := 224) rfl (by decide) rfl) rfl rfl hl.1 rfl (lv_room (Nat.le_of_ble_eq_true rfl)) dL_acts_696 ⟨Nat.le_of_ble_eq_true rfl, Nat.le_of_ble_eq_true rfl⟩) hW (fun ad_76 H locs had2 hW => ?_)
                      rw [← had2.1 224 rfl] at hl
                      have had := adR_tr had had2
                      refine lv_ldc (v := (-2000000002 : Int32)) hx hb hown (hts _ (wm 5 rfl)) dL_acts_699 ?_
                      refine lv_icmp_ne (tgt := 708) hx hb dL_acts_701 (by decide) (fun c1 => ?_) (fun c1 => ?_)
                      · have hr := br_n c1 hr
                        refine lv_iconst (v := (0 : Int32)) hx hb dL_acts_708 (by decide) ?_
                        obtain ⟨e1, e2⟩ := Prod.mk.inj (Option.some.inj hr)
                        rw [← e1, ← e2]
                        refine W.widen (k := 2) (n := 12) (Nat.le_of_ble_eq_true rfl) (Nat.le_of_ble_eq_true rfl) ?_
                        exact zzret hx hb hr0 hlocks hW had (by decide) dL_acts_709
                      · have hr := br_p c1 hr
                        refine lv_iconst (v := (1 : Int32)) hx hb dL_acts_704 (by decide) ?_
                        refine lv_goto (tgt := 709) hx hb dL_acts_705 (by decide) ?_
                        obtain ⟨e1, e2⟩ := Prod.mk.inj (Option.some.inj hr)
                        rw [← e1, ← e2]
                        refine W.widen (k := 2) (n := 12) (Nat.le_of_ble_eq_true rfl) (Nat.le_of_ble_eq_true rfl) ?_
                        exact zzret hx hb hr0 hlocks hW had (by decide) dL_acts_709
            · have hr := br_p c1 hr
              refine lv_iload_n hx hb dL_acts_473 rfl (lv_at hl 5 rfl) ?_
              refine lv_bipush (v := (9 : Int32)) hx hb dL_acts_474 (by decide) ?_
              obtain ⟨r_77, hc476, hr⟩ := ob1_e hr
              refine xk_i (va_runS (As := [.int x2, .int (9 : Int32)]) (rest := []) ⟨hx, hb, hml, hown, hts⟩ (c_L_low l D cA ad M x2 (9 : Int32) hc476) (va_cwS 2 hts gL_acts_L_low rfl rfl rfl (by decide +kernel) ⟨Nat.le_of_ble_eq_true rfl, Nat.le_of_ble_eq_true rfl⟩) (xpreS hK hW) rfl rfl hl.1 rfl (lv_room (Nat.le_of_ble_eq_true rfl)) dL_acts_476 ⟨Nat.le_of_ble_eq_true rfl, Nat.le_of_ble_eq_true rfl⟩) hW (fun H locs hW => ?_)
              refine lv_sipush (v := (500 : Int32)) hx hb dL_acts_479 (by decide) ?_
              refine lv_imul hx hb dL_acts_482 ?_
              obtain ⟨x6_78, ex6_78, hr⟩ := lt1_e hr
              rw [← ex6_78]
              refine lv_istore (lv' := [(6, .int x6_78), (5, .int r_3), (4, .int r_2), (3, .int r_1), (0, .ref (ad 224)), (1, .int x1), (2, .int x2)]) hx hb dL_acts_483 hl (by decide) rfl (fun ls hl => ?_)
              refine lv_sipush (v := (500 : Int32)) hx hb dL_acts_485 (by decide) ?_
              refine lv_iload_n hx hb dL_acts_488 rfl (lv_at hl 6 rfl) ?_
              refine lv_iconst (v := (4 : Int32)) hx hb dL_acts_489 (by decide) ?_
              refine lv_ishr hx hb dL_acts_490 ?_
              refine lv_sipush (v := (1001 : Int32)) hx hb dL_acts_491 (by decide) ?_
              obtain ⟨r_79, hc494, hr⟩ := ob1_e hr
              refine xk_i (va_runS (As := [.int (x2 >>> ((4 : Int32) &&& 31)), .int (1001 : Int32)]) (rest := [.int (500 : Int32)]) ⟨hx, hb, hml, hown, hts⟩ (c_L_low l D cA ad M (x2 >>> ((4 : Int32) &&& 31)) (1001 : Int32) hc494) (va_cwS 2 hts gL_acts_L_low rfl rfl rfl (by decide +kernel) ⟨Nat.le_of_ble_eq_true rfl, Nat.le_of_ble_eq_true rfl⟩) (xpreS hK hW) rfl rfl hl.1 rfl (lv_room (Nat.le_of_ble_eq_true rfl)) dL_acts_494 ⟨Nat.le_of_ble_eq_true rfl, Nat.le_of_ble_eq_true rfl⟩) hW (fun H locs hW => ?_)
              refine lv_iadd hx hb dL_acts_497 ?_
              obtain ⟨x7_80, ex7_80, hr⟩ := lt1_e hr
              rw [← ex7_80]
              refine lv_istore (lv' := [(7, .int x7_80), (6, .int x6_78), (5, .int r_3), (4, .int r_2), (3, .int r_1), (0, .ref (ad 224)), (1, .int x1), (2, .int x2)]) hx hb dL_acts_498 hl (by decide) rfl (fun ls hl => ?_)
              refine lv_aload_n hx hb dL_acts_500 rfl (lv_at hl 5 rfl) ?_
              refine lv_iconst (v := (1 : Int32)) hx hb dL_acts_501 (by decide) ?_
              obtain ⟨r_81, hc502, hr⟩ := ob1_e hr
              refine xk_i (va_runV (As := [.int (1 : Int32)]) (rest := []) ⟨hx, hb, hml, hown, hts⟩ (c_X10_total l D cA ad M (1 : Int32) hc502) (cwV 1 hts gL_acts_X10_total rfl rfl rfl (by decide +kernel) ⟨Nat.le_of_ble_eq_true rfl, Nat.le_of_ble_eq_true rfl⟩) (xpreV hK hW (k := 224) rfl (by decide) rfl) rfl rfl hl.1 rfl (lv_room (Nat.le_of_ble_eq_true rfl)) dL_acts_502 ⟨Nat.le_of_ble_eq_true rfl, Nat.le_of_ble_eq_true rfl⟩) hW (fun H locs hW => ?_)
              refine lv_istore (lv' := [(8, .int r_81), (7, .int x7_80), (6, .int x6_78), (5, .int r_3), (4, .int r_2), (3, .int r_1), (0, .ref (ad 224)), (1, .int x1), (2, .int x2)]) hx hb dL_acts_505 hl (by decide) rfl (fun ls hl => ?_)
              refine lv_aload_n hx hb dL_acts_507 rfl (lv_at hl 6 rfl) ?_
              refine lv_iload hx hb dL_acts_508 (lv_at hl 2 rfl) ?_
              refine lv_iload hx hb dL_acts_510 (lv_at hl 1 rfl) ?_
              obtain ⟨r_83, M_82, hc512, hr⟩ := ob2_e hr
              refine xc_i (va_runV (As := [.int x6_78, .int x7_80]) (rest := []) ⟨hx, hb, hml, hown, hts⟩ (c_X10_setPoint l D cA ad M x6_78 x7_80 hc512) (cwV 2 hts gL_acts_X10_setPoint rfl rfl rfl (by decide +kernel) ⟨Nat.le_of_ble_eq_true rfl, Nat.le_of_ble_eq_true rfl⟩) (xpreV hK hW (k := 224) rfl (by decide) rfl) rfl rfl hl.1 rfl (lv_room (Nat.le_of_ble_eq_true rfl)) dL_acts_512 ⟨Nat.le_of_ble_eq_true rfl, Nat.le_of_ble_eq_true rfl⟩) hW (fun ad_84 H locs had2 hW => ?_)
              rw [← had2.1 224 rfl] at hl
              have had := had2
              refine lv_istore (lv' := [(9, .int r_83), (8, .int r_81), (7, .int x7_80), (6, .int x6_78), (5, .int r_3), (4, .int r_2), (3, .int r_1), (0, .ref (ad_84 224)), (1, .int x1), (2, .int x2)]) hx hb dL_acts_515 hl (by decide) rfl (fun ls hl => ?_)
              refine lv_iload hx hb dL_acts_517 (lv_at hl 0 rfl) ?_
              refine lv_ldc (v := (-2000000004 : Int32)) hx hb hown (hts _ (wm 2 rfl)) dL_acts_519 ?_
              refine lv_icmp_ne (tgt := 549) hx hb dL_acts_521 (by decide) (fun c1 => ?_) (fun c1 => ?_)
              · have hr := br_n c1 hr
                refine lv_iload hx hb dL_acts_549 (lv_at hl 0 rfl) ?_
                refine lv_iload hx hb dL_acts_551 (lv_at hl 1 rfl) ?_
                have hj565_93 : ∀ (H : Heap) (locs : List Loc) (ls : Array Slot), Xw D true cA ad_84 M_82 (AZ ad s.heap.size) s.heap H locs → lv_has ls 12 [(7, .int x7_80), (6, .int x6_78), (0, .ref (ad_84 224)), (2, .int x2)] → f_L_acts_J565 x2 x6_78 x7_80 M_82 = some (r, M') → W p l e (headSpec wsL_acts { frames := 7, cells := 2, slots := 12, locals := 183 }).room s m args below meth c H locs 0 0 (MQ below (QiZ D cA ad s.heap.size r M') args s 2 12 (AZ ad s.heap.size)) (F0 m 565 ls []) := by
                  intro H locs ls hW hl hr
                  unfold f_L_acts_J565 at hr
                  refine lv_aload_n hx hb dL_acts_565 rfl (lv_at hl 2 rfl) ?_
                  refine lv_iload hx hb dL_acts_566 (lv_at hl 1 rfl) ?_
                  obtain ⟨r_85, hc568, hr⟩ := ob1_e hr
                  refine xk_i (va_runV (As := [.int x6_78]) (rest := []) ⟨hx, hb, hml, hown, hts⟩ (c_X10_factor l D cA ad_84 M_82 x6_78 hc568) (cwV 1 hts gL_acts_X10_factor rfl rfl rfl (by decide +kernel) ⟨Nat.le_of_ble_eq_true rfl, Nat.le_of_ble_eq_true rfl⟩) (xpreV hK hW (k := 224) rfl (by decide) rfl) rfl rfl hl.1 rfl (lv_room (Nat.le_of_ble_eq_true rfl)) dL_acts_568 ⟨Nat.le_of_ble_eq_true rfl, Nat.le_of_ble_eq_true rfl⟩) hW (fun H locs hW => ?_)
                  refine lv_iload hx hb dL_acts_571 (lv_at hl 0 rfl) ?_
                  refine lv_icmp_ne (tgt := 625) hx hb dL_acts_573 (by decide) (fun c1 => ?_) (fun c1 => ?_)
                  · have hr := br_n c1 hr
                    refine lv_iconst (v := (0 : Int32)) hx hb dL_acts_625 (by decide) ?_
                    obtain ⟨e1, e2⟩ := Prod.mk.inj (Option.some.inj hr)
                    rw [← e1, ← e2]
                    refine W.widen (k := 2) (n := 12) (Nat.le_of_ble_eq_true rfl) (Nat.le_of_ble_eq_true rfl) ?_
                    exact zzret hx hb hr0 hlocks hW had (by decide) dL_acts_626
                  · have hr := br_p c1 hr
                    refine lv_aload_n hx hb dL_acts_576 rfl (lv_at hl 2 rfl) ?_
                    refine lv_iload hx hb dL_acts_577 (lv_at hl 1 rfl) ?_
                    refine lv_ineg hx hb dL_acts_579 ?_
                    obtain ⟨r_86, hc580, hr⟩ := ob1_e hr
                    refine xk_i (va_runV (As := [.int (-x6_78)]) (rest := []) ⟨hx, hb, hml, hown, hts⟩ (c_X10_factor l D cA ad_84 M_82 (-x6_78) hc580) (cwV 1 hts gL_acts_X10_factor rfl rfl rfl (by decide +kernel) ⟨Nat.le_of_ble_eq_true rfl, Nat.le_of_ble_eq_true rfl⟩) (xpreV hK hW (k := 224) rfl (by decide) rfl) rfl rfl hl.1 rfl (lv_room (Nat.le_of_ble_eq_true rfl)) dL_acts_580 ⟨Nat.le_of_ble_eq_true rfl, Nat.le_of_ble_eq_true rfl⟩) hW (fun H locs hW => ?_)
                    refine lv_iload hx hb dL_acts_583 (lv_at hl 0 rfl) ?_
                    refine lv_icmp_ne (tgt := 625) hx hb dL_acts_585 (by decide) (fun c1 => ?_) (fun c1 => ?_)
                    · have hr := br_n c1 hr
                      refine lv_iconst (v := (0 : Int32)) hx hb dL_acts_625 (by decide) ?_
                      obtain ⟨e1, e2⟩ := Prod.mk.inj (Option.some.inj hr)
                      rw [← e1, ← e2]
                      refine W.widen (k := 2) (n := 12) (Nat.le_of_ble_eq_true rfl) (Nat.le_of_ble_eq_true rfl) ?_
                      exact zzret hx hb hr0 hlocks hW had (by decide) dL_acts_626
                    · have hr := br_p c1 hr
                      refine lv_iload_n hx hb dL_acts_588 rfl (lv_at hl 3 rfl) ?_
                      refine lv_bipush (v := (9 : Int32)) hx hb dL_acts_589 (by decide) ?_
                      refine lv_ishr hx hb dL_acts_591 ?_
                      refine lv_iconst (v := (3 : Int32)) hx hb dL_acts_592 (by decide) ?_
                      obtain ⟨r_87, hc593, hr⟩ := ob1_e hr
                      refine xk_i (va_runS (As := [.int (x2 >>> ((9 : Int32) &&& 31)), .int (3 : Int32)]) (rest := []) ⟨hx, hb, hml, hown, hts⟩ (c_L_low l D cA ad_84 M_82 (x2 >>> ((9 : Int32) &&& 31)) (3 : Int32) hc593) (va_cwS 2 hts gL_acts_L_low rfl rfl rfl (by decide +kernel) ⟨Nat.le_of_ble_eq_true rfl, Nat.le_of_ble_eq_true rfl⟩) (xpreS hK hW) rfl rfl hl.1 rfl (lv_room (Nat.le_of_ble_eq_true rfl)) dL_acts_593 ⟨Nat.le_of_ble_eq_true rfl, Nat.le_of_ble_eq_true rfl⟩) hW (fun H locs hW => ?_)
                      refine lv_if_gt (tgt := 621) hx hb dL_acts_596 (by decide) (fun c1 => ?_) (fun c1 => ?_)
                      · have hr := br_p c1 hr
                        refine lv_iconst (v := (1 : Int32)) hx hb dL_acts_621 (by decide) ?_
                        refine lv_goto (tgt := 626) hx hb dL_acts_622 (by decide) ?_
                        obtain ⟨e1, e2⟩ := Prod.mk.inj (Option.some.inj hr)
                        rw [← e1, ← e2]
                        refine W.widen (k := 2) (n := 12) (Nat.le_of_ble_eq_true rfl) (Nat.le_of_ble_eq_true rfl) ?_
                        exact zzret hx hb hr0 hlocks hW had (by decide) dL_acts_626
                      · have hr := br_n c1 hr
                        refine lv_aload_n hx hb dL_acts_599 rfl (lv_at hl 2 rfl) ?_
                        refine lv_iload hx hb dL_acts_600 (lv_at hl 1 rfl) ?_
                        obtain ⟨r_89, M_88, hc602, hr⟩ := ob2_e hr
                        refine xc_i (va_runV (As := [.int x6_78]) (rest := []) ⟨hx, hb, hml, hown, hts⟩ (c_X10_removePoint l D cA ad_84 M_82 x6_78 hc602) (cwV 1 hts gL_acts_X10_removePoint rfl rfl rfl (by decide +kernel) ⟨Nat.le_of_ble_eq_true rfl, Nat.le_of_ble_eq_true rfl⟩) (xpreV hK hW (k := 224) rfl (by decide) rfl) rfl rfl hl.1 rfl (lv_room (Nat.le_of_ble_eq_true rfl)) dL_acts_602 ⟨Nat.le_of_ble_eq_true rfl, Nat.le_of_ble_eq_true rfl⟩) hW (fun ad_90 H locs had2 hW => ?_)
                        rw [← had2.1 224 rfl] at hl
                        have had := adR_tr had had2
                        refine lv_iload hx hb dL_acts_605 (lv_at hl 0 rfl) ?_
                        refine lv_icmp_ne (tgt := 625) hx hb dL_acts_607 (by decide) (fun c1 => ?_) (fun c1 => ?_)
                        · have hr := br_n c1 hr
                          refine lv_iconst (v := (0 : Int32)) hx hb dL_acts_625 (by decide) ?_
                          obtain ⟨e1, e2⟩ := Prod.mk.inj (Option.some.inj hr)
                          rw [← e1, ← e2]
                          refine W.widen (k := 2) (n := 12) (Nat.le_of_ble_eq_true rfl) (Nat.le_of_ble_eq_true rfl) ?_
                          exact zzret hx hb hr0 hlocks hW had (by decide) dL_acts_626
                        · have hr := br_p c1 hr
                          refine lv_aload_n hx hb dL_acts_610 rfl (lv_at hl 2 rfl) ?_
                          refine lv_iload hx hb dL_acts_611 (lv_at hl 1 rfl) ?_
                          obtain ⟨r_92, M_91, hc613, hr⟩ := ob2_e hr
                          refine xc_i (va_runV (As := [.int x6_78]) (rest := []) ⟨hx, hb, hml, hown, hts⟩ (c_X10_removePoint l D cA ad_90 M_88 x6_78 hc613) (cwV 1 hts gL_acts_X10_removePoint rfl rfl rfl (by decide +kernel) ⟨Nat.le_of_ble_eq_true rfl, Nat.le_of_ble_eq_true rfl⟩) (xpreV hK hW (k := 224) rfl (by decide) rfl) rfl rfl hl.1 rfl (lv_room (Nat.le_of_ble_eq_true rfl)) dL_acts_613 ⟨Nat.le_of_ble_eq_true rfl, Nat.le_of_ble_eq_true rfl⟩) hW (fun ad_93 H locs had2 hW => ?_)
                          rw [← had2.1 224 rfl] at hl
                          have had := adR_tr had had2
                          refine lv_ldc (v := (-2000000003 : Int32)) hx hb hown (hts _ (wm 3 rfl)) dL_acts_616 ?_
                          refine lv_icmp_ne (tgt := 625) hx hb dL_acts_618 (by decide) (fun c1 => ?_) (fun c1 => ?_)
                          · have hr := br_n c1 hr
                            refine lv_iconst (v := (0 : Int32)) hx hb dL_acts_625 (by decide) ?_
                            obtain ⟨e1, e2⟩ := Prod.mk.inj (Option.some.inj hr)
                            rw [← e1, ← e2]
                            refine W.widen (k := 2) (n := 12) (Nat.le_of_ble_eq_true rfl) (Nat.le_of_ble_eq_true rfl) ?_
                            exact zzret hx hb hr0 hlocks hW had (by decide) dL_acts_626
                          · have hr := br_p c1 hr
                            refine lv_iconst (v := (1 : Int32)) hx hb dL_acts_621 (by decide) ?_
                            refine lv_goto (tgt := 626) hx hb dL_acts_622 (by decide) ?_
                            obtain ⟨e1, e2⟩ := Prod.mk.inj (Option.some.inj hr)
                            rw [← e1, ← e2]
                            refine W.widen (k := 2) (n := 12) (Nat.le_of_ble_eq_true rfl) (Nat.le_of_ble_eq_true rfl) ?_
                            exact zzret hx hb hr0 hlocks hW had (by decide) dL_acts_626
                refine lv_icmp_eq (tgt := 565) hx hb dL_acts_553 (by decide) (fun c1 => ?_) (fun c1 => ?_)
                · have hr := br_p c1 hr
                  exact hj565_93 _ _ _ hW (lv_sub hl [2, 3, 7, 9] rfl) hr
                · have hr := br_n c1 hr
                  refine lv_iload hx hb dL_acts_556 (lv_at hl 0 rfl) ?_
                  refine lv_iload hx hb dL_acts_558 (lv_at hl 1 rfl) ?_
                  refine lv_iconst (v := (1 : Int32)) hx hb dL_acts_560 (by decide) ?_
                  refine lv_iadd hx hb dL_acts_561 ?_
                  refine lv_icmp_ne (tgt := 625) hx hb dL_acts_562 (by decide) (fun c1 => ?_) (fun c1 => ?_)
                  · have hr := br_n c1 hr
                    refine lv_iconst (v := (0 : Int32)) hx hb dL_acts_625 (by decide) ?_
                    obtain ⟨e1, e2⟩ := Prod.mk.inj (Option.some.inj hr)
                    rw [← e1, ← e2]
                    refine W.widen (k := 2) (n := 12) (Nat.le_of_ble_eq_true rfl) (Nat.le_of_ble_eq_true rfl) ?_
                    exact zzret hx hb hr0 hlocks hW had (by decide) dL_acts_626
                  · have hr := br_p c1 hr
                    exact hj565_93 _ _ _ hW (lv_sub hl [2, 3, 7, 9] rfl) hr
              · have hr := br_p c1 hr
                refine lv_iload hx hb dL_acts_524 (lv_at hl 1 rfl) ?_
                refine lv_bipush (v := (6 : Int32)) hx hb dL_acts_526 (by decide) ?_
                refine lv_icmp_ne (tgt := 545) hx hb dL_acts_528 (by decide) (fun c1 => ?_) (fun c1 => ?_)
                · have hr := br_n c1 hr
                  refine lv_iconst (v := (0 : Int32)) hx hb dL_acts_545 (by decide) ?_
                  refine lv_goto (tgt := 626) hx hb dL_acts_546 (by decide) ?_
                  obtain ⟨e1, e2⟩ := Prod.mk.inj (Option.some.inj hr)
                  rw [← e1, ← e2]
                  refine W.widen (k := 2) (n := 12) (Nat.le_of_ble_eq_true rfl) (Nat.le_of_ble_eq_true rfl) ?_
                  exact zzret hx hb hr0 hlocks hW had (by decide) dL_acts_626
                · have hr := br_p c1 hr
                  refine lv_aload_n hx hb dL_acts_531 rfl (lv_at hl 7 rfl) ?_
                  refine lv_iconst (v := (1 : Int32)) hx hb dL_acts_532 (by decide) ?_
                  obtain ⟨r_94, hc533, hr⟩ := ob1_e hr
                  refine xk_i (va_runV (As := [.int (1 : Int32)]) (rest := []) ⟨hx, hb, hml, hown, hts⟩ (c_X10_total l D cA ad_84 M_82 (1 : Int32) hc533) (cwV 1 hts gL_acts_X10_total rfl rfl rfl (by decide +kernel) ⟨Nat.le_of_ble_eq_true rfl, Nat.le_of_ble_eq_true rfl⟩) (xpreV hK hW (k := 224) rfl (by decide) rfl) rfl rfl hl.1 rfl (lv_room (Nat.le_of_ble_eq_true rfl)) dL_acts_533 ⟨Nat.le_of_ble_eq_true rfl, Nat.le_of_ble_eq_true rfl⟩) hW (fun H locs hW => ?_)
                  refine lv_bipush (v := (6 : Int32)) hx hb dL_acts_536 (by decide) ?_
                  refine lv_icmp_ne (tgt := 545) hx hb dL_acts_538 (by decide) (fun c1 => ?_) (fun c1 => ?_)
                  · have hr := br_n c1 hr
                    refine lv_iconst (v := (0 : Int32)) hx hb dL_acts_545 (by decide) ?_
                    refine lv_goto (tgt := 626) hx hb dL_acts_546 (by decide) ?_
                    obtain ⟨e1, e2⟩ := Prod.mk.inj (Option.some.inj hr)
                    rw [← e1, ← e2]
                    refine W.widen (k := 2) (n := 12) (Nat.le_of_ble_eq_true rfl) (Nat.le_of_ble_eq_true rfl) ?_
                    exact zzret hx hb hr0 hlocks hW had (by decide) dL_acts_626
                  · have hr := br_p c1 hr
                    refine lv_iconst (v := (1 : Int32)) hx hb dL_acts_541 (by decide) ?_
                    refine lv_goto (tgt := 626) hx hb dL_acts_542 (by decide) ?_
                    obtain ⟨e1, e2⟩ := Prod.mk.inj (Option.some.inj hr)
                    rw [← e1, ← e2]
                    refine W.widen (k := 2) (n := 12) (Nat.le_of_ble_eq_true rfl) (Nat.le_of_ble_eq_true rfl) ?_
                    exact zzret hx hb hr0 hlocks hW had (by decide) dL_acts_626
          · have hr := br_p c1 hr
            refine lv_iload_n hx hb dL_acts_337 rfl (lv_at hl 5 rfl) ?_
            refine lv_iconst (v := (5 : Int32)) hx hb dL_acts_338 (by decide) ?_
            obtain ⟨r_95, hc339, hr⟩ := ob1_e hr
            refine xk_i (va_runS (As := [.int x2, .int (5 : Int32)]) (rest := []) ⟨hx, hb, hml, hown, hts⟩ (c_L_low l D cA ad M x2 (5 : Int32) hc339) (va_cwS 2 hts gL_acts_L_low rfl rfl rfl (by decide +kernel) ⟨Nat.le_of_ble_eq_true rfl, Nat.le_of_ble_eq_true rfl⟩) (xpreS hK hW) rfl rfl hl.1 rfl (lv_room (Nat.le_of_ble_eq_true rfl)) dL_acts_339 ⟨Nat.le_of_ble_eq_true rfl, Nat.le_of_ble_eq_true rfl⟩) hW (fun H locs hW => ?_)
            refine lv_istore (lv' := [(6, .int r_95), (5, .int r_3), (4, .int r_2), (3, .int r_1), (0, .ref (ad 224)), (1, .int x1), (2, .int x2)]) hx hb dL_acts_342 hl (by decide) rfl (fun ls hl => ?_)
            refine lv_iload hx hb dL_acts_344 (lv_at hl 0 rfl) ?_
            obtain ⟨y_96, hr, hr3⟩ := ob1_e hr
            have hj387_96 : ∀ (H : Heap) (locs : List Loc) (ls : Array Slot), Xw D true cA ad M (AZ ad s.heap.size) s.heap H locs → lv_has ls 12 [(6, .int r_95), (0, .ref (ad 224))] → W p l e (headSpec wsL_acts { frames := 7, cells := 2, slots := 12, locals := 183 }).room s m args below meth c H locs 0 0 (MQ below (QiZ D cA ad s.heap.size r M') args s 2 12 (AZ ad s.heap.size)) (F0 m 387 ls [.int y_96]) := by
              intro H locs ls hW hl
              have hr := hr3
              refine lv_istore (lv' := [(7, .int y_96), (6, .int r_95), (0, .ref (ad 224))]) hx hb dL_acts_387 hl (by decide) rfl (fun ls hl => ?_)
              refine lv_aload_n hx hb dL_acts_389 rfl (lv_at hl 2 rfl) ?_
              refine lv_bipush (v := (10 : Int32)) hx hb dL_acts_390 (by decide) ?_
              refine lv_iload hx hb dL_acts_392 (lv_at hl 1 rfl) ?_
              refine lv_iadd hx hb dL_acts_394 ?_
              obtain ⟨r_100, hc395, hr⟩ := ob1_e hr
              refine xk_i (va_runV (As := [.int ((10 : Int32) + r_95)]) (rest := []) ⟨hx, hb, hml, hown, hts⟩ (c_X10_total l D cA ad M ((10 : Int32) + r_95) hc395) (cwV 1 hts gL_acts_X10_total rfl rfl rfl (by decide +kernel) ⟨Nat.le_of_ble_eq_true rfl, Nat.le_of_ble_eq_true rfl⟩) (xpreV hK hW (k := 224) rfl (by decide) rfl) rfl rfl hl.1 rfl (lv_room (Nat.le_of_ble_eq_true rfl)) dL_acts_395 ⟨Nat.le_of_ble_eq_true rfl, Nat.le_of_ble_eq_true rfl⟩) hW (fun H locs hW => ?_)
              refine lv_istore (lv' := [(8, .int r_100), (7, .int y_96), (6, .int r_95), (0, .ref (ad 224))]) hx hb dL_acts_398 hl (by decide) rfl (fun ls hl => ?_)
              refine lv_aload_n hx hb dL_acts_400 rfl (lv_at hl 3 rfl) ?_
              refine lv_iload hx hb dL_acts_401 (lv_at hl 2 rfl) ?_
              refine lv_iload hx hb dL_acts_403 (lv_at hl 1 rfl) ?_
              obtain ⟨r_102, M_101, hc405, hr⟩ := ob2_e hr
              refine xc_i (va_runV (As := [.int r_95, .int y_96]) (rest := []) ⟨hx, hb, hml, hown, hts⟩ (c_X10_set l D cA ad M r_95 y_96 tL tH hc405) (cwV 2 hts gL_acts_X10_set rfl rfl rfl (by decide +kernel) ⟨Nat.le_of_ble_eq_true rfl, Nat.le_of_ble_eq_true rfl⟩) (zpreV hK hW hSt) rfl rfl hl.1 rfl (lv_room (Nat.le_of_ble_eq_true rfl)) dL_acts_405 ⟨Nat.le_of_ble_eq_true rfl, Nat.le_of_ble_eq_true rfl⟩) hW (fun ad_103 H locs had2 hW => ?_)
              rw [← had2.1 224 rfl] at hl
              have had := had2
              refine lv_iload hx hb dL_acts_408 (lv_at hl 0 rfl) ?_
              refine lv_icmp_ne (tgt := 465) hx hb dL_acts_410 (by decide) (fun c1 => ?_) (fun c1 => ?_)
              · have hr := br_n c1 hr
                refine lv_iconst (v := (0 : Int32)) hx hb dL_acts_465 (by decide) ?_
                obtain ⟨e1, e2⟩ := Prod.mk.inj (Option.some.inj hr)
                rw [← e1, ← e2]
                refine W.widen (k := 2) (n := 12) (Nat.le_of_ble_eq_true rfl) (Nat.le_of_ble_eq_true rfl) ?_
                exact zzret hx hb hr0 hlocks hW had (by decide) dL_acts_466
              · have hr := br_p c1 hr
                refine lv_aload_n hx hb dL_acts_413 rfl (lv_at hl 3 rfl) ?_
                refine lv_bipush (v := (10 : Int32)) hx hb dL_acts_414 (by decide) ?_
                refine lv_iload hx hb dL_acts_416 (lv_at hl 2 rfl) ?_
                refine lv_iadd hx hb dL_acts_418 ?_
                obtain ⟨r_104, hc419, hr⟩ := ob1_e hr
                refine xk_i (va_runV (As := [.int ((10 : Int32) + r_95)]) (rest := []) ⟨hx, hb, hml, hown, hts⟩ (c_X10_total l D cA ad_103 M_101 ((10 : Int32) + r_95) hc419) (cwV 1 hts gL_acts_X10_total rfl rfl rfl (by decide +kernel) ⟨Nat.le_of_ble_eq_true rfl, Nat.le_of_ble_eq_true rfl⟩) (xpreV hK hW (k := 224) rfl (by decide) rfl) rfl rfl hl.1 rfl (lv_room (Nat.le_of_ble_eq_true rfl)) dL_acts_419 ⟨Nat.le_of_ble_eq_true rfl, Nat.le_of_ble_eq_true rfl⟩) hW (fun H locs hW => ?_)
                refine lv_iload hx hb dL_acts_422 (lv_at hl 1 rfl) ?_
                refine lv_icmp_ne (tgt := 465) hx hb dL_acts_424 (by decide) (fun c1 => ?_) (fun c1 => ?_)
                · have hr := br_n c1 hr
                  refine lv_iconst (v := (0 : Int32)) hx hb dL_acts_465 (by decide) ?_
                  obtain ⟨e1, e2⟩ := Prod.mk.inj (Option.some.inj hr)
                  rw [← e1, ← e2]
                  refine W.widen (k := 2) (n := 12) (Nat.le_of_ble_eq_true rfl) (Nat.le_of_ble_eq_true rfl) ?_
                  exact zzret hx hb hr0 hlocks hW had (by decide) dL_acts_466
                · have hr := br_p c1 hr
                  refine lv_aload_n hx hb dL_acts_427 rfl (lv_at hl 3 rfl) ?_
                  obtain ⟨r_106, M_105, hc428, hr⟩ := ob2_e hr
                  refine xk_i (va_runV (As := []) (rest := []) ⟨hx, hb, hml, hown, hts⟩ (c_X10_undo l D cA ad_103 M_101 hc428) (cwV 0 hts gL_acts_X10_undo rfl rfl rfl (by decide +kernel) ⟨Nat.le_of_ble_eq_true rfl, Nat.le_of_ble_eq_true rfl⟩) (xpreV hK hW (k := 224) rfl (by decide) rfl) rfl rfl hl.1 rfl (lv_room (Nat.le_of_ble_eq_true rfl)) dL_acts_428 ⟨Nat.le_of_ble_eq_true rfl, Nat.le_of_ble_eq_true rfl⟩) hW (fun H locs hW => ?_)
                  refine lv_if_lt (tgt := 465) hx hb dL_acts_431 (by decide) (fun c1 => ?_) (fun c1 => ?_)
                  · have hr := br_p c1 hr
                    refine lv_iconst (v := (0 : Int32)) hx hb dL_acts_465 (by decide) ?_
                    obtain ⟨e1, e2⟩ := Prod.mk.inj (Option.some.inj hr)
                    rw [← e1, ← e2]
                    refine W.widen (k := 2) (n := 12) (Nat.le_of_ble_eq_true rfl) (Nat.le_of_ble_eq_true rfl) ?_
                    exact zzret hx hb hr0 hlocks hW had (by decide) dL_acts_466
                  · have hr := br_n c1 hr
                    refine lv_aload_n hx hb dL_acts_434 rfl (lv_at hl 3 rfl) ?_
                    refine lv_bipush (v := (10 : Int32)) hx hb dL_acts_435 (by decide) ?_
                    refine lv_iload hx hb dL_acts_437 (lv_at hl 2 rfl) ?_
                    refine lv_iadd hx hb dL_acts_439 ?_
                    obtain ⟨r_107, hc440, hr⟩ := ob1_e hr
                    refine xk_i (va_runV (As := [.int ((10 : Int32) + r_95)]) (rest := []) ⟨hx, hb, hml, hown, hts⟩ (c_X10_total l D cA ad_103 M_105 ((10 : Int32) + r_95) hc440) (cwV 1 hts gL_acts_X10_total rfl rfl rfl (by decide +kernel) ⟨Nat.le_of_ble_eq_true rfl, Nat.le_of_ble_eq_true rfl⟩) (xpreV hK hW (k := 224) rfl (by decide) rfl) rfl rfl hl.1 rfl (lv_room (Nat.le_of_ble_eq_true rfl)) dL_acts_440 ⟨Nat.le_of_ble_eq_true rfl, Nat.le_of_ble_eq_true rfl⟩) hW (fun H locs hW => ?_)
                    refine lv_iload hx hb dL_acts_443 (lv_at hl 0 rfl) ?_
                    refine lv_icmp_ne (tgt := 465) hx hb dL_acts_445 (by decide) (fun c1 => ?_) (fun c1 => ?_)
                    · have hr := br_n c1 hr
                      refine lv_iconst (v := (0 : Int32)) hx hb dL_acts_465 (by decide) ?_
                      obtain ⟨e1, e2⟩ := Prod.mk.inj (Option.some.inj hr)
                      rw [← e1, ← e2]
                      refine W.widen (k := 2) (n := 12) (Nat.le_of_ble_eq_true rfl) (Nat.le_of_ble_eq_true rfl) ?_
                      exact zzret hx hb hr0 hlocks hW had (by decide) dL_acts_466
                    · have hr := br_p c1 hr
                      refine lv_aload_n hx hb dL_acts_448 rfl (lv_at hl 3 rfl) ?_
                      refine lv_iload hx hb dL_acts_449 (lv_at hl 2 rfl) ?_
                      refine lv_iload hx hb dL_acts_451 (lv_at hl 1 rfl) ?_
                      obtain ⟨r_109, M_108, hc453, hr⟩ := ob2_e hr
                      refine xc_i (va_runV (As := [.int r_95, .int y_96]) (rest := []) ⟨hx, hb, hml, hown, hts⟩ (c_X10_set l D cA ad_103 M_105 r_95 y_96 tL tH hc453) (cwV 2 hts gL_acts_X10_set rfl rfl rfl (by decide +kernel) ⟨Nat.le_of_ble_eq_true rfl, Nat.le_of_ble_eq_true rfl⟩) (zpreV hK hW hSt) rfl rfl hl.1 rfl (lv_room (Nat.le_of_ble_eq_true rfl)) dL_acts_453 ⟨Nat.le_of_ble_eq_true rfl, Nat.le_of_ble_eq_true rfl⟩) hW (fun ad_110 H locs had2 hW => ?_)
                      rw [← had2.1 224 rfl] at hl
                      have had := adR_tr had had2
                      refine lv_iload hx hb dL_acts_456 (lv_at hl 0 rfl) ?_
                      refine lv_icmp_ne (tgt := 465) hx hb dL_acts_458 (by decide) (fun c1 => ?_) (fun c1 => ?_)
                      · have hr := br_n c1 hr
                        refine lv_iconst (v := (0 : Int32)) hx hb dL_acts_465 (by decide) ?_
                        obtain ⟨e1, e2⟩ := Prod.mk.inj (Option.some.inj hr)
                        rw [← e1, ← e2]
                        refine W.widen (k := 2) (n := 12) (Nat.le_of_ble_eq_true rfl) (Nat.le_of_ble_eq_true rfl) ?_
                        exact zzret hx hb hr0 hlocks hW had (by decide) dL_acts_466
                      · have hr := br_p c1 hr
                        refine lv_iconst (v := (1 : Int32)) hx hb dL_acts_461 (by decide) ?_
                        refine lv_goto (tgt := 466) hx hb dL_acts_462 (by decide) ?_
                        obtain ⟨e1, e2⟩ := Prod.mk.inj (Option.some.inj hr)
                        rw [← e1, ← e2]
                        refine W.widen (k := 2) (n := 12) (Nat.le_of_ble_eq_true rfl) (Nat.le_of_ble_eq_true rfl) ?_
                        exact zzret hx hb hr0 hlocks hW had (by decide) dL_acts_466
            clear hr3
            refine lv_if_ne (tgt := 360) hx hb dL_acts_346 (by decide) (fun c1 => ?_) (fun c1 => ?_)
            · have hr := br_n c1 hr
              refine lv_iload hx hb dL_acts_360 (lv_at hl 0 rfl) ?_
              refine lv_iconst (v := (1 : Int32)) hx hb dL_acts_362 (by decide) ?_
              refine lv_icmp_ne (tgt := 377) hx hb dL_acts_363 (by decide) (fun c1 => ?_) (fun c1 => ?_)
              · have hr := br_n c1 hr
                refine lv_iconst (v := (1 : Int32)) hx hb dL_acts_377 (by decide) ?_
                refine lv_iload_n hx hb dL_acts_378 rfl (lv_at hl 6 rfl) ?_
                refine lv_iconst (v := (3 : Int32)) hx hb dL_acts_379 (by decide) ?_
                refine lv_ishr hx hb dL_acts_380 ?_
                refine lv_bipush (v := (100 : Int32)) hx hb dL_acts_381 (by decide) ?_
                obtain ⟨r_97, hc383, hr⟩ := ob1_e hr
                refine xk_i (va_runS (As := [.int (x2 >>> ((3 : Int32) &&& 31)), .int (100 : Int32)]) (rest := [.int (1 : Int32)]) ⟨hx, hb, hml, hown, hts⟩ (c_L_low l D cA ad M (x2 >>> ((3 : Int32) &&& 31)) (100 : Int32) hc383) (va_cwS 2 hts gL_acts_L_low rfl rfl rfl (by decide +kernel) ⟨Nat.le_of_ble_eq_true rfl, Nat.le_of_ble_eq_true rfl⟩) (xpreS hK hW) rfl rfl hl.1 rfl (lv_room (Nat.le_of_ble_eq_true rfl)) dL_acts_383 ⟨Nat.le_of_ble_eq_true rfl, Nat.le_of_ble_eq_true rfl⟩) hW (fun H locs hW => ?_)
                refine lv_iadd hx hb dL_acts_386 ?_
                have e1 := Option.some.inj hr
                subst e1
                exact hj387_96 _ _ _ hW (lv_sub hl [0, 4] rfl)
              · have hr := br_p c1 hr
                refine lv_iload_n hx hb dL_acts_366 rfl (lv_at hl 6 rfl) ?_
                refine lv_iconst (v := (3 : Int32)) hx hb dL_acts_367 (by decide) ?_
                refine lv_ishr hx hb dL_acts_368 ?_
                refine lv_bipush (v := (6 : Int32)) hx hb dL_acts_369 (by decide) ?_
                obtain ⟨r_98, hc371, hr⟩ := ob1_e hr
                refine xk_i (va_runS (As := [.int (x2 >>> ((3 : Int32) &&& 31)), .int (6 : Int32)]) (rest := []) ⟨hx, hb, hml, hown, hts⟩ (c_L_low l D cA ad M (x2 >>> ((3 : Int32) &&& 31)) (6 : Int32) hc371) (va_cwS 2 hts gL_acts_L_low rfl rfl rfl (by decide +kernel) ⟨Nat.le_of_ble_eq_true rfl, Nat.le_of_ble_eq_true rfl⟩) (xpreS hK hW) rfl rfl hl.1 rfl (lv_room (Nat.le_of_ble_eq_true rfl)) dL_acts_371 ⟨Nat.le_of_ble_eq_true rfl, Nat.le_of_ble_eq_true rfl⟩) hW (fun H locs hW => ?_)
                refine lv_goto (tgt := 387) hx hb dL_acts_374 (by decide) ?_
                have e1 := Option.some.inj hr
                subst e1
                exact hj387_96 _ _ _ hW (lv_sub hl [0, 4] rfl)
            · have hr := br_p c1 hr
              refine lv_iload_n hx hb dL_acts_349 rfl (lv_at hl 6 rfl) ?_
              refine lv_iconst (v := (3 : Int32)) hx hb dL_acts_350 (by decide) ?_
              refine lv_ishr hx hb dL_acts_351 ?_
              refine lv_bipush (v := (101 : Int32)) hx hb dL_acts_352 (by decide) ?_
              obtain ⟨r_99, hc354, hr⟩ := ob1_e hr
              refine xk_i (va_runS (As := [.int (x2 >>> ((3 : Int32) &&& 31)), .int (101 : Int32)]) (rest := []) ⟨hx, hb, hml, hown, hts⟩ (c_L_low l D cA ad M (x2 >>> ((3 : Int32) &&& 31)) (101 : Int32) hc354) (va_cwS 2 hts gL_acts_L_low rfl rfl rfl (by decide +kernel) ⟨Nat.le_of_ble_eq_true rfl, Nat.le_of_ble_eq_true rfl⟩) (xpreS hK hW) rfl rfl hl.1 rfl (lv_room (Nat.le_of_ble_eq_true rfl)) dL_acts_354 ⟨Nat.le_of_ble_eq_true rfl, Nat.le_of_ble_eq_true rfl⟩) hW (fun H locs hW => ?_)
              refine lv_goto (tgt := 387) hx hb dL_acts_357 (by decide) ?_
              have e1 := Option.some.inj hr
              subst e1
              exact hj387_96 _ _ _ hW (lv_sub hl [0, 4] rfl)
        · have hr := br_p c1 hr
          refine lv_aload_n hx hb dL_acts_156 rfl (lv_at hl 3 rfl) ?_
          obtain ⟨r_112, M_111, hc157, hr⟩ := ob2_e hr
          refine xk_i (va_runV (As := []) (rest := []) ⟨hx, hb, hml, hown, hts⟩ (c_X10_wouldBe l D cA ad M hc157) (cwV 0 hts gL_acts_X10_wouldBe rfl rfl rfl (by decide +kernel) ⟨Nat.le_of_ble_eq_true rfl, Nat.le_of_ble_eq_true rfl⟩) (xpreV hK hW (k := 224) rfl (by decide) rfl) rfl rfl hl.1 rfl (lv_room (Nat.le_of_ble_eq_true rfl)) dL_acts_157 ⟨Nat.le_of_ble_eq_true rfl, Nat.le_of_ble_eq_true rfl⟩) hW (fun H locs hW => ?_)
          refine lv_istore (lv' := [(6, .int r_112), (5, .int r_3), (4, .int r_2), (3, .int r_1), (0, .ref (ad 224)), (1, .int x1), (2, .int x2)]) hx hb dL_acts_160 hl (by decide) rfl (fun ls hl => ?_)
          refine lv_aload_n hx hb dL_acts_162 rfl (lv_at hl 4 rfl) ?_
          refine lv_iload hx hb dL_acts_163 (lv_at hl 1 rfl) ?_
          refine lv_iconst (v := (5 : Int32)) hx hb dL_acts_165 (by decide) ?_
          obtain ⟨r_113, hc166, hr⟩ := ob1_e hr
          refine xk_i (va_runV (As := [.int r_3, .int (5 : Int32)]) (rest := []) ⟨hx, hb, hml, hown, hts⟩ (c_X10_path l D cA ad M_111 r_3 (5 : Int32) hc166) (cwV 2 hts gL_acts_X10_path rfl rfl rfl (by decide +kernel) ⟨Nat.le_of_ble_eq_true rfl, Nat.le_of_ble_eq_true rfl⟩) (xpreV hK hW (k := 224) rfl (by decide) rfl) rfl rfl hl.1 rfl (lv_room (Nat.le_of_ble_eq_true rfl)) dL_acts_166 ⟨Nat.le_of_ble_eq_true rfl, Nat.le_of_ble_eq_true rfl⟩) hW (fun H locs hW => ?_)
          refine lv_istore (lv' := [(7, .int r_113), (6, .int r_112), (5, .int r_3), (4, .int r_2), (3, .int r_1), (0, .ref (ad 224)), (1, .int x1), (2, .int x2)]) hx hb dL_acts_169 hl (by decide) rfl (fun ls hl => ?_)
          refine lv_aload_n hx hb dL_acts_171 rfl (lv_at hl 5 rfl) ?_
          refine lv_iload hx hb dL_acts_172 (lv_at hl 2 rfl) ?_
          refine lv_bipush (v := (6 : Int32)) hx hb dL_acts_174 (by decide) ?_
          obtain ⟨r_114, hc176, hr⟩ := ob1_e hr
          refine xk_i (va_runV (As := [.int r_3, .int (6 : Int32)]) (rest := []) ⟨hx, hb, hml, hown, hts⟩ (c_X10_path l D cA ad M_111 r_3 (6 : Int32) hc176) (cwV 2 hts gL_acts_X10_path rfl rfl rfl (by decide +kernel) ⟨Nat.le_of_ble_eq_true rfl, Nat.le_of_ble_eq_true rfl⟩) (xpreV hK hW (k := 224) rfl (by decide) rfl) rfl rfl hl.1 rfl (lv_room (Nat.le_of_ble_eq_true rfl)) dL_acts_176 ⟨Nat.le_of_ble_eq_true rfl, Nat.le_of_ble_eq_true rfl⟩) hW (fun H locs hW => ?_)
          refine lv_istore (lv' := [(8, .int r_114), (7, .int r_113), (6, .int r_112), (5, .int r_3), (4, .int r_2), (3, .int r_1), (0, .ref (ad 224)), (1, .int x1), (2, .int x2)]) hx hb dL_acts_179 hl (by decide) rfl (fun ls hl => ?_)
          refine lv_aload_n hx hb dL_acts_181 rfl (lv_at hl 6 rfl) ?_
          refine lv_iload hx hb dL_acts_182 (lv_at hl 3 rfl) ?_
          refine lv_iconst (v := (0 : Int32)) hx hb dL_acts_184 (by decide) ?_
          obtain ⟨r_115, hc185, hr⟩ := ob1_e hr
          refine xk_i (va_runV (As := [.int r_3, .int (0 : Int32)]) (rest := []) ⟨hx, hb, hml, hown, hts⟩ (c_X10_told l D cA ad M_111 r_3 (0 : Int32) hc185) (cwV 2 hts gL_acts_X10_told rfl rfl rfl (by decide +kernel) ⟨Nat.le_of_ble_eq_true rfl, Nat.le_of_ble_eq_true rfl⟩) (xpreV hK hW (k := 224) rfl (by decide) rfl) rfl rfl hl.1 rfl (lv_room (Nat.le_of_ble_eq_true rfl)) dL_acts_185 ⟨Nat.le_of_ble_eq_true rfl, Nat.le_of_ble_eq_true rfl⟩) hW (fun H locs hW => ?_)
          refine lv_istore (lv' := [(9, .int r_115), (8, .int r_114), (7, .int r_113), (6, .int r_112), (5, .int r_3), (4, .int r_2), (3, .int r_1), (0, .ref (ad 224)), (1, .int x1), (2, .int x2)]) hx hb dL_acts_188 hl (by decide) rfl (fun ls hl => ?_)
          refine lv_aload_n hx hb dL_acts_190 rfl (lv_at hl 7 rfl) ?_
          refine lv_bipush (v := (6 : Int32)) hx hb dL_acts_191 (by decide) ?_
          obtain ⟨r_116, hc193, hr⟩ := ob1_e hr
          refine xk_i (va_runV (As := [.int (6 : Int32)]) (rest := []) ⟨hx, hb, hml, hown, hts⟩ (c_X10_total l D cA ad M_111 (6 : Int32) hc193) (cwV 1 hts gL_acts_X10_total rfl rfl rfl (by decide +kernel) ⟨Nat.le_of_ble_eq_true rfl, Nat.le_of_ble_eq_true rfl⟩) (xpreV hK hW (k := 224) rfl (by decide) rfl) rfl rfl hl.1 rfl (lv_room (Nat.le_of_ble_eq_true rfl)) dL_acts_193 ⟨Nat.le_of_ble_eq_true rfl, Nat.le_of_ble_eq_true rfl⟩) hW (fun H locs hW => ?_)
          refine lv_istore (lv' := [(10, .int r_116), (9, .int r_115), (8, .int r_114), (7, .int r_113), (6, .int r_112), (5, .int r_3), (4, .int r_2), (3, .int r_1), (0, .ref (ad 224)), (1, .int x1), (2, .int x2)]) hx hb dL_acts_196 hl (by decide) rfl (fun ls hl => ?_)
          refine lv_aload_n hx hb dL_acts_198 rfl (lv_at hl 8 rfl) ?_
          obtain ⟨r_118, M_117, hc199, hr⟩ := ob2_e hr
          refine xc_i (va_runV (As := []) (rest := []) ⟨hx, hb, hml, hown, hts⟩ (c_X10_swap l D cA ad M_111 hc199) (cwV 0 hts gL_acts_X10_swap rfl rfl rfl (by decide +kernel) ⟨Nat.le_of_ble_eq_true rfl, Nat.le_of_ble_eq_true rfl⟩) (xpreV hK hW (k := 224) rfl (by decide) rfl) rfl rfl hl.1 rfl (lv_room (Nat.le_of_ble_eq_true rfl)) dL_acts_199 ⟨Nat.le_of_ble_eq_true rfl, Nat.le_of_ble_eq_true rfl⟩) hW (fun ad_119 H locs had2 hW => ?_)
          rw [← had2.1 224 rfl] at hl
          have had := had2
          refine lv_iconst (v := (1 : Int32)) hx hb dL_acts_202 (by decide) ?_
          refine lv_iload hx hb dL_acts_203 (lv_at hl 0 rfl) ?_
          refine lv_isub hx hb dL_acts_205 ?_
          obtain ⟨y_120, M_121, hr, hr3⟩ := ob2_e hr
          have hj280_121 : ∀ (H : Heap) (locs : List Loc) (ls : Array Slot), Xw D true cA ad_119 M_121 (AZ ad s.heap.size) s.heap H locs → lv_has ls 12 [(10, .int r_116), (7, .int r_113), (6, .int r_112), (5, .int r_3), (0, .ref (ad_119 224)), (2, .int x2)] → W p l e (headSpec wsL_acts { frames := 7, cells := 2, slots := 12, locals := 183 }).room s m args below meth c H locs 0 0 (MQ below (QiZ D cA ad s.heap.size r M') args s 2 12 (AZ ad s.heap.size)) (F0 m 280 ls [.int y_120]) := by
            intro H locs ls hW hl
            have hr := hr3
            refine lv_istore (lv' := [(11, .int y_120), (10, .int r_116), (7, .int r_113), (6, .int r_112), (5, .int r_3), (0, .ref (ad_119 224)), (2, .int x2)]) hx hb dL_acts_280 hl (by decide) rfl (fun ls hl => ?_)
            refine lv_iload hx hb dL_acts_282 (lv_at hl 0 rfl) ?_
            refine lv_if_eq (tgt := 329) hx hb dL_acts_284 (by decide) (fun c1 => ?_) (fun c1 => ?_)
            · have hr := br_p c1 hr
              refine lv_iconst (v := (0 : Int32)) hx hb dL_acts_329 (by decide) ?_
              obtain ⟨e1, e2⟩ := Prod.mk.inj (Option.some.inj hr)
              rw [← e1, ← e2]
              refine W.widen (k := 2) (n := 12) (Nat.le_of_ble_eq_true rfl) (Nat.le_of_ble_eq_true rfl) ?_
              exact zzret hx hb hr0 hlocks hW had (by decide) dL_acts_330
            · have hr := br_n c1 hr
              refine lv_iload_n hx hb dL_acts_287 rfl (lv_at hl 6 rfl) ?_
              refine lv_iconst (v := (2 : Int32)) hx hb dL_acts_288 (by decide) ?_
              obtain ⟨r_128, hc289, hr⟩ := ob1_e hr
              refine xk_i (va_runS (As := [.int x2, .int (2 : Int32)]) (rest := []) ⟨hx, hb, hml, hown, hts⟩ (c_L_low l D cA ad_119 M_121 x2 (2 : Int32) hc289) (va_cwS 2 hts gL_acts_L_low rfl rfl rfl (by decide +kernel) ⟨Nat.le_of_ble_eq_true rfl, Nat.le_of_ble_eq_true rfl⟩) (xpreS hK hW) rfl rfl hl.1 rfl (lv_room (Nat.le_of_ble_eq_true rfl)) dL_acts_289 ⟨Nat.le_of_ble_eq_true rfl, Nat.le_of_ble_eq_true rfl⟩) hW (fun H locs hW => ?_)
              refine lv_if_eq (tgt := 325) hx hb dL_acts_292 (by decide) (fun c1 => ?_) (fun c1 => ?_)
              · have hr := br_p c1 hr
                refine lv_iconst (v := (1 : Int32)) hx hb dL_acts_325 (by decide) ?_
                refine lv_goto (tgt := 330) hx hb dL_acts_326 (by decide) ?_
                obtain ⟨e1, e2⟩ := Prod.mk.inj (Option.some.inj hr)
                rw [← e1, ← e2]
                refine W.widen (k := 2) (n := 12) (Nat.le_of_ble_eq_true rfl) (Nat.le_of_ble_eq_true rfl) ?_
                exact zzret hx hb hr0 hlocks hW had (by decide) dL_acts_330
              · have hr := br_n c1 hr
                refine lv_aload_n hx hb dL_acts_295 rfl (lv_at hl 5 rfl) ?_
                obtain ⟨r_130, M_129, hc296, hr⟩ := ob2_e hr
                refine xc_i (va_runV (As := []) (rest := []) ⟨hx, hb, hml, hown, hts⟩ (c_X10_swap l D cA ad_119 M_121 hc296) (cwV 0 hts gL_acts_X10_swap rfl rfl rfl (by decide +kernel) ⟨Nat.le_of_ble_eq_true rfl, Nat.le_of_ble_eq_true rfl⟩) (xpreV hK hW (k := 224) rfl (by decide) rfl) rfl rfl hl.1 rfl (lv_room (Nat.le_of_ble_eq_true rfl)) dL_acts_296 ⟨Nat.le_of_ble_eq_true rfl, Nat.le_of_ble_eq_true rfl⟩) hW (fun ad_131 H locs had2 hW => ?_)
                rw [← had2.1 224 rfl] at hl
                have had := adR_tr had had2
                refine lv_iload hx hb dL_acts_299 (lv_at hl 1 rfl) ?_
                refine lv_icmp_ne (tgt := 329) hx hb dL_acts_301 (by decide) (fun c1 => ?_) (fun c1 => ?_)
                · have hr := br_n c1 hr
                  refine lv_iconst (v := (0 : Int32)) hx hb dL_acts_329 (by decide) ?_
                  obtain ⟨e1, e2⟩ := Prod.mk.inj (Option.some.inj hr)
                  rw [← e1, ← e2]
                  refine W.widen (k := 2) (n := 12) (Nat.le_of_ble_eq_true rfl) (Nat.le_of_ble_eq_true rfl) ?_
                  exact zzret hx hb hr0 hlocks hW had (by decide) dL_acts_330
                · have hr := br_p c1 hr
                  refine lv_aload_n hx hb dL_acts_304 rfl (lv_at hl 5 rfl) ?_
                  refine lv_iload hx hb dL_acts_305 (lv_at hl 4 rfl) ?_
                  refine lv_iconst (v := (5 : Int32)) hx hb dL_acts_307 (by decide) ?_
                  obtain ⟨r_132, hc308, hr⟩ := ob1_e hr
                  refine xk_i (va_runV (As := [.int r_3, .int (5 : Int32)]) (rest := []) ⟨hx, hb, hml, hown, hts⟩ (c_X10_path l D cA ad_131 M_129 r_3 (5 : Int32) hc308) (cwV 2 hts gL_acts_X10_path rfl rfl rfl (by decide +kernel) ⟨Nat.le_of_ble_eq_true rfl, Nat.le_of_ble_eq_true rfl⟩) (xpreV hK hW (k := 224) rfl (by decide) rfl) rfl rfl hl.1 rfl (lv_room (Nat.le_of_ble_eq_true rfl)) dL_acts_308 ⟨Nat.le_of_ble_eq_true rfl, Nat.le_of_ble_eq_true rfl⟩) hW (fun H locs hW => ?_)
                  refine lv_iload hx hb dL_acts_311 (lv_at hl 2 rfl) ?_
                  refine lv_icmp_ne (tgt := 329) hx hb dL_acts_313 (by decide) (fun c1 => ?_) (fun c1 => ?_)
                  · have hr := br_n c1 hr
                    refine lv_iconst (v := (0 : Int32)) hx hb dL_acts_329 (by decide) ?_
                    obtain ⟨e1, e2⟩ := Prod.mk.inj (Option.some.inj hr)
                    rw [← e1, ← e2]
                    refine W.widen (k := 2) (n := 12) (Nat.le_of_ble_eq_true rfl) (Nat.le_of_ble_eq_true rfl) ?_
                    exact zzret hx hb hr0 hlocks hW had (by decide) dL_acts_330
                  · have hr := br_p c1 hr
                    refine lv_aload_n hx hb dL_acts_316 rfl (lv_at hl 5 rfl) ?_
                    obtain ⟨r_134, M_133, hc317, hr⟩ := ob2_e hr
                    refine xk_i (va_runV (As := []) (rest := []) ⟨hx, hb, hml, hown, hts⟩ (c_X10_wouldBe l D cA ad_131 M_129 hc317) (cwV 0 hts gL_acts_X10_wouldBe rfl rfl rfl (by decide +kernel) ⟨Nat.le_of_ble_eq_true rfl, Nat.le_of_ble_eq_true rfl⟩) (xpreV hK hW (k := 224) rfl (by decide) rfl) rfl rfl hl.1 rfl (lv_room (Nat.le_of_ble_eq_true rfl)) dL_acts_317 ⟨Nat.le_of_ble_eq_true rfl, Nat.le_of_ble_eq_true rfl⟩) hW (fun H locs hW => ?_)
                    refine lv_iload hx hb dL_acts_320 (lv_at hl 3 rfl) ?_
                    refine lv_icmp_ne (tgt := 329) hx hb dL_acts_322 (by decide) (fun c1 => ?_) (fun c1 => ?_)
                    · have hr := br_n c1 hr
                      refine lv_iconst (v := (0 : Int32)) hx hb dL_acts_329 (by decide) ?_
                      obtain ⟨e1, e2⟩ := Prod.mk.inj (Option.some.inj hr)
                      rw [← e1, ← e2]
                      refine W.widen (k := 2) (n := 12) (Nat.le_of_ble_eq_true rfl) (Nat.le_of_ble_eq_true rfl) ?_
                      exact zzret hx hb hr0 hlocks hW had (by decide) dL_acts_330
                    · have hr := br_p c1 hr
                      refine lv_iconst (v := (1 : Int32)) hx hb dL_acts_325 (by decide) ?_
                      refine lv_goto (tgt := 330) hx hb dL_acts_326 (by decide) ?_
                      obtain ⟨e1, e2⟩ := Prod.mk.inj (Option.some.inj hr)
                      rw [← e1, ← e2]
                      refine W.widen (k := 2) (n := 12) (Nat.le_of_ble_eq_true rfl) (Nat.le_of_ble_eq_true rfl) ?_
                      exact zzret hx hb hr0 hlocks hW had (by decide) dL_acts_330
          clear hr3
          refine lv_icmp_ne (tgt := 279) hx hb dL_acts_206 (by decide) (fun c1 => ?_) (fun c1 => ?_)
          · have hr := br_n c1 hr
            refine lv_iconst (v := (0 : Int32)) hx hb dL_acts_279 (by decide) ?_
            obtain ⟨e1, e2⟩ := Prod.mk.inj (Option.some.inj hr)
            subst e1
            subst e2
            exact hj280_121 _ _ _ hW (lv_sub hl [0, 3, 4, 5, 8, 10] rfl)
          · have hr := br_p c1 hr
            refine lv_aload_n hx hb dL_acts_209 rfl (lv_at hl 8 rfl) ?_
            refine lv_iload hx hb dL_acts_210 (lv_at hl 5 rfl) ?_
            refine lv_iconst (v := (5 : Int32)) hx hb dL_acts_212 (by decide) ?_
            obtain ⟨r_122, hc213, hr⟩ := ob1_e hr
            refine xk_i (va_runV (As := [.int r_3, .int (5 : Int32)]) (rest := []) ⟨hx, hb, hml, hown, hts⟩ (c_X10_path l D cA ad_119 M_117 r_3 (5 : Int32) hc213) (cwV 2 hts gL_acts_X10_path rfl rfl rfl (by decide +kernel) ⟨Nat.le_of_ble_eq_true rfl, Nat.le_of_ble_eq_true rfl⟩) (xpreV hK hW (k := 224) rfl (by decide) rfl) rfl rfl hl.1 rfl (lv_room (Nat.le_of_ble_eq_true rfl)) dL_acts_213 ⟨Nat.le_of_ble_eq_true rfl, Nat.le_of_ble_eq_true rfl⟩) hW (fun H locs hW => ?_)
            refine lv_iload hx hb dL_acts_216 (lv_at hl 2 rfl) ?_
            refine lv_icmp_ne (tgt := 279) hx hb dL_acts_218 (by decide) (fun c1 => ?_) (fun c1 => ?_)
            · have hr := br_n c1 hr
              refine lv_iconst (v := (0 : Int32)) hx hb dL_acts_279 (by decide) ?_
              obtain ⟨e1, e2⟩ := Prod.mk.inj (Option.some.inj hr)
              subst e1
              subst e2
              exact hj280_121 _ _ _ hW (lv_sub hl [0, 3, 4, 5, 8, 10] rfl)
            · have hr := br_p c1 hr
              refine lv_aload_n hx hb dL_acts_221 rfl (lv_at hl 8 rfl) ?_
              refine lv_iload hx hb dL_acts_222 (lv_at hl 5 rfl) ?_
              refine lv_bipush (v := (6 : Int32)) hx hb dL_acts_224 (by decide) ?_
              obtain ⟨r_123, hc226, hr⟩ := ob1_e hr
              refine xk_i (va_runV (As := [.int r_3, .int (6 : Int32)]) (rest := []) ⟨hx, hb, hml, hown, hts⟩ (c_X10_path l D cA ad_119 M_117 r_3 (6 : Int32) hc226) (cwV 2 hts gL_acts_X10_path rfl rfl rfl (by decide +kernel) ⟨Nat.le_of_ble_eq_true rfl, Nat.le_of_ble_eq_true rfl⟩) (xpreV hK hW (k := 224) rfl (by decide) rfl) rfl rfl hl.1 rfl (lv_room (Nat.le_of_ble_eq_true rfl)) dL_acts_226 ⟨Nat.le_of_ble_eq_true rfl, Nat.le_of_ble_eq_true rfl⟩) hW (fun H locs hW => ?_)
              refine lv_iload hx hb dL_acts_229 (lv_at hl 3 rfl) ?_
              refine lv_icmp_ne (tgt := 279) hx hb dL_acts_231 (by decide) (fun c1 => ?_) (fun c1 => ?_)
              · have hr := br_n c1 hr
                refine lv_iconst (v := (0 : Int32)) hx hb dL_acts_279 (by decide) ?_
                obtain ⟨e1, e2⟩ := Prod.mk.inj (Option.some.inj hr)
                subst e1
                subst e2
                exact hj280_121 _ _ _ hW (lv_sub hl [0, 3, 4, 5, 8, 10] rfl)
              · have hr := br_p c1 hr
                refine lv_iload hx hb dL_acts_234 (lv_at hl 1 rfl) ?_
                refine lv_ldc (v := (-2000000005 : Int32)) hx hb hown (hts _ (wm 1 rfl)) dL_acts_236 ?_
                have hj253_126 : ∀ (H : Heap) (locs : List Loc) (ls : Array Slot), Xw D true cA ad_119 M_117 (AZ ad s.heap.size) s.heap H locs → lv_has ls 12 [(10, .int r_116), (7, .int r_113), (6, .int r_112), (5, .int r_3), (0, .ref (ad_119 224)), (2, .int x2)] → f_L_acts_J253 r_112 M_117 = some (y_120, M_121) → W p l e (headSpec wsL_acts { frames := 7, cells := 2, slots := 12, locals := 183 }).room s m args below meth c H locs 0 0 (MQ below (QiZ D cA ad s.heap.size r M') args s 2 12 (AZ ad s.heap.size)) (F0 m 253 ls []) := by
                  intro H locs ls hW hl hr
                  unfold f_L_acts_J253 at hr
                  refine lv_aload_n hx hb dL_acts_253 rfl (lv_at hl 4 rfl) ?_
                  obtain ⟨r_125, M_124, hc254, hr⟩ := ob2_e hr
                  refine xk_i (va_runV (As := []) (rest := []) ⟨hx, hb, hml, hown, hts⟩ (c_X10_wouldBe l D cA ad_119 M_117 hc254) (cwV 0 hts gL_acts_X10_wouldBe rfl rfl rfl (by decide +kernel) ⟨Nat.le_of_ble_eq_true rfl, Nat.le_of_ble_eq_true rfl⟩) (xpreV hK hW (k := 224) rfl (by decide) rfl) rfl rfl hl.1 rfl (lv_room (Nat.le_of_ble_eq_true rfl)) dL_acts_254 ⟨Nat.le_of_ble_eq_true rfl, Nat.le_of_ble_eq_true rfl⟩) hW (fun H locs hW => ?_)
                  refine lv_iload hx hb dL_acts_257 (lv_at hl 2 rfl) ?_
                  refine lv_ldc (v := (-2000000005 : Int32)) hx hb hown (hts _ (wm 1 rfl)) dL_acts_259 ?_
                  obtain ⟨y_126, hr, hr3⟩ := ob1_e hr
                  have hj272_126 : ∀ (H : Heap) (locs : List Loc) (ls : Array Slot), Xw D true cA ad_119 M_124 (AZ ad s.heap.size) s.heap H locs → lv_has ls 12 [(10, .int r_116), (7, .int r_113), (6, .int r_112), (5, .int r_3), (0, .ref (ad_119 224)), (2, .int x2)] → W p l e (headSpec wsL_acts { frames := 7, cells := 2, slots := 12, locals := 183 }).room s m args below meth c H locs 0 0 (MQ below (QiZ D cA ad s.heap.size r M') args s 2 12 (AZ ad s.heap.size)) (F0 m 272 ls [.int y_126, .int r_125]) := by
                    intro H locs ls hW hl
                    have hr := hr3
                    refine lv_icmp_ne (tgt := 279) hx hb dL_acts_272 (by decide) (fun c1 => ?_) (fun c1 => ?_)
                    · have hr := br_n c1 hr
                      refine lv_iconst (v := (0 : Int32)) hx hb dL_acts_279 (by decide) ?_
                      obtain ⟨e1, e2⟩ := Prod.mk.inj (Option.some.inj hr)
                      subst e1
                      subst e2
                      exact hj280_121 _ _ _ hW (lv_sub hl [0, 1, 2, 3, 4, 5] rfl)
                    · have hr := br_p c1 hr
                      refine lv_iconst (v := (1 : Int32)) hx hb dL_acts_275 (by decide) ?_
                      refine lv_goto (tgt := 280) hx hb dL_acts_276 (by decide) ?_
                      obtain ⟨e1, e2⟩ := Prod.mk.inj (Option.some.inj hr)
                      subst e1
                      subst e2
                      exact hj280_121 _ _ _ hW (lv_sub hl [0, 1, 2, 3, 4, 5] rfl)
                  clear hr3
                  refine lv_icmp_ne (tgt := 269) hx hb dL_acts_261 (by decide) (fun c1 => ?_) (fun c1 => ?_)
                  · have hr := br_n c1 hr
                    refine lv_iload hx hb dL_acts_269 (lv_at hl 2 rfl) ?_
                    refine lv_ineg hx hb dL_acts_271 ?_
                    have e1 := Option.some.inj hr
                    subst e1
                    exact hj272_126 _ _ _ hW (lv_sub hl [0, 1, 2, 3, 4, 5] rfl)
                  · have hr := br_p c1 hr
                    refine lv_ldc (v := (-2000000005 : Int32)) hx hb hown (hts _ (wm 1 rfl)) dL_acts_264 ?_
                    refine lv_goto (tgt := 272) hx hb dL_acts_266 (by decide) ?_
                    have e1 := Option.some.inj hr
                    subst e1
                    exact hj272_126 _ _ _ hW (lv_sub hl [0, 1, 2, 3, 4, 5] rfl)
                refine lv_icmp_eq (tgt := 253) hx hb dL_acts_238 (by decide) (fun c1 => ?_) (fun c1 => ?_)
                · have hr := br_p c1 hr
                  exact hj253_126 _ _ _ hW (lv_sub hl [0, 3, 4, 5, 8, 10] rfl) hr
                · have hr := br_n c1 hr
                  refine lv_aload_n hx hb dL_acts_241 rfl (lv_at hl 8 rfl) ?_
                  refine lv_iload hx hb dL_acts_242 (lv_at hl 5 rfl) ?_
                  refine lv_iconst (v := (1 : Int32)) hx hb dL_acts_244 (by decide) ?_
                  obtain ⟨r_127, hc245, hr⟩ := ob1_e hr
                  refine xk_i (va_runV (As := [.int r_3, .int (1 : Int32)]) (rest := []) ⟨hx, hb, hml, hown, hts⟩ (c_X10_told l D cA ad_119 M_117 r_3 (1 : Int32) hc245) (cwV 2 hts gL_acts_X10_told rfl rfl rfl (by decide +kernel) ⟨Nat.le_of_ble_eq_true rfl, Nat.le_of_ble_eq_true rfl⟩) (xpreV hK hW (k := 224) rfl (by decide) rfl) rfl rfl hl.1 rfl (lv_room (Nat.le_of_ble_eq_true rfl)) dL_acts_245 ⟨Nat.le_of_ble_eq_true rfl, Nat.le_of_ble_eq_true rfl⟩) hW (fun H locs hW => ?_)
                  refine lv_iload hx hb dL_acts_248 (lv_at hl 1 rfl) ?_
                  refine lv_icmp_ne (tgt := 279) hx hb dL_acts_250 (by decide) (fun c1 => ?_) (fun c1 => ?_)
                  · have hr := br_n c1 hr
                    refine lv_iconst (v := (0 : Int32)) hx hb dL_acts_279 (by decide) ?_
                    obtain ⟨e1, e2⟩ := Prod.mk.inj (Option.some.inj hr)
                    subst e1
                    subst e2
                    exact hj280_121 _ _ _ hW (lv_sub hl [0, 3, 4, 5, 8, 10] rfl)
                  · have hr := br_p c1 hr
                    exact hj253_126 _ _ _ hW (lv_sub hl [0, 3, 4, 5, 8, 10] rfl) hr
      · have hr := br_p c1 hr
        refine lv_aload_n hx hb dL_acts_139 rfl (lv_at hl 3 rfl) ?_
        refine lv_iload hx hb dL_acts_140 (lv_at hl 0 rfl) ?_
        refine lv_iload_n hx hb dL_acts_142 rfl (lv_at hl 4 rfl) ?_
        refine lv_iconst (v := (4 : Int32)) hx hb dL_acts_143 (by decide) ?_
        refine lv_ishr hx hb dL_acts_144 ?_
        refine lv_iload_n hx hb dL_acts_145 rfl (lv_at hl 5 rfl) ?_
        obtain ⟨r_136, M_135, hc146, hr⟩ := ob2_e hr
        refine xc_i (va_runS (As := [.ref (ad 224), .int r_3, .int (x1 >>> ((4 : Int32) &&& 31)), .int x2]) (rest := []) ⟨hx, hb, hml, hown, hts⟩ (c_L_shoots l D cA ad M r_3 (x1 >>> ((4 : Int32) &&& 31)) x2 hc146) (va_cwS 4 hts gL_acts_L_shoots rfl rfl rfl (by decide +kernel) ⟨Nat.le_of_ble_eq_true rfl, Nat.le_of_ble_eq_true rfl⟩) (xpreS hK hW) rfl rfl hl.1 rfl (lv_room (Nat.le_of_ble_eq_true rfl)) dL_acts_146 ⟨Nat.le_of_ble_eq_true rfl, Nat.le_of_ble_eq_true rfl⟩) hW (fun ad_137 H locs had2 hW => ?_)
        rw [← had2.1 224 rfl] at hl
        have had := had2
        obtain ⟨hz149, hr⟩ := chk_e hr
        obtain ⟨e1, e2⟩ := Prod.mk.inj (Option.some.inj hr)
        rw [← e1, ← e2]
        refine W.widen (k := 2) (n := 12) (Nat.le_of_ble_eq_true rfl) (Nat.le_of_ble_eq_true rfl) ?_
        exact zzret hx hb hr0 hlocks hW had hz149 dL_acts_149
    · have hr := br_n c1 hr
      refine lv_aload_n hx hb dL_acts_128 rfl (lv_at hl 3 rfl) ?_
      obtain ⟨r_139, M_138, hc129, hr⟩ := ob2_e hr
      refine xz_i (va_runS (As := [.ref (ad 224)]) (rest := []) ⟨hx, hb, hml, hown, hts⟩ (c_L_closes l D cA ad M H.size hc129) (va_cwS 1 hts gL_acts_L_closes rfl rfl rfl (by decide +kernel) ⟨Nat.le_of_ble_eq_true rfl, Nat.le_of_ble_eq_true rfl⟩) (zpre hK hW) rfl rfl hl.1 rfl (lv_room (Nat.le_of_ble_eq_true rfl)) dL_acts_129 ⟨Nat.le_of_ble_eq_true rfl, Nat.le_of_ble_eq_true rfl⟩) hW hA (fun ad_140 H locs had2 hW => ?_)
      rw [← had2.1 224 rfl] at hl
      have had := had2
      obtain ⟨hz132, hr⟩ := chk_e hr
      obtain ⟨e1, e2⟩ := Prod.mk.inj (Option.some.inj hr)
      rw [← e1, ← e2]
      exact zzret hx hb hr0 hlocks hW had hz132 dL_acts_132
  · have hr := br_n c1 hr
    refine lv_iconst (v := (1 : Int32)) hx hb dL_acts_30 (by decide) ?_
    refine lv_istore (lv' := [(6, .int (1 : Int32)), (5, .int r_3), (4, .int r_2), (3, .int r_1), (0, .ref (ad 224)), (1, .int x1), (2, .int x2)]) hx hb dL_acts_31 hl (by decide) rfl (fun ls hl => ?_)
    refine lv_iconst (v := (0 : Int32)) hx hb dL_acts_33 (by decide) ?_
    refine lv_istore (lv' := [(7, .int (0 : Int32)), (6, .int (1 : Int32)), (5, .int r_3), (4, .int r_2), (3, .int r_1), (0, .ref (ad 224)), (1, .int x1), (2, .int x2)]) hx hb dL_acts_34 hl (by decide) rfl (fun ls hl => ?_)
    have hL36_144 : ∀ (n : Nat) (x6_141 : Int32) (x7_142 : Int32) (M_143 : Mm) (ad_144 : Nat → Nat) (H : Heap) (locs : List Loc) (ls : Array Slot), adR true true ad ad_144 → Xw D true cA ad_144 M_143 (AZ ad s.heap.size) s.heap H locs → lv_has ls 12 [(4, .int r_2), (3, .int r_1), (0, .ref (ad_144 224)), (1, .int x1), (2, .int x2), (6, .int x6_141), (7, .int x7_142)] → f_L_acts_L36 x1 x2 r_1 r_2 n x6_141 x7_142 M_143 = some (r, M') → W p l e (headSpec wsL_acts { frames := 7, cells := 2, slots := 12, locals := 183 }).room s m args below meth c H locs 0 0 (MQ below (QiZ D cA ad s.heap.size r M') args s 2 12 (AZ ad s.heap.size)) (F0 m 36 ls []) := by
      intro n
      induction n with
      | zero =>
        intro x6_141 x7_142 M_143 ad_144 H locs ls had hW hl hr
        exact absurd hr (by simp [f_L_acts_L36])
      | succ n ih =>
        intro x6_141 x7_142 M_143 ad_144 H locs ls had hW hl hr
        rw [f_L_acts_L36] at hr
        refine lv_iload hx hb dL_acts_36 (lv_at hl 6 rfl) ?_
        refine lv_iload hx hb dL_acts_38 (lv_at hl 0 rfl) ?_
        have hj104_147 : ∀ (H : Heap) (locs : List Loc) (ls : Array Slot), Xw D true cA ad_144 M_143 (AZ ad s.heap.size) s.heap H locs → lv_has ls 12 [(0, .ref (ad_144 224)), (6, .int x6_141)] → f_L_acts_J104 x6_141 M_143 = some (r, M') → W p l e (headSpec wsL_acts { frames := 7, cells := 2, slots := 12, locals := 183 }).room s m args below meth c H locs 0 0 (MQ below (QiZ D cA ad s.heap.size r M') args s 2 12 (AZ ad s.heap.size)) (F0 m 104 ls []) := by
          intro H locs ls hW hl hr
          unfold f_L_acts_J104 at hr
          refine lv_iload hx hb dL_acts_104 (lv_at hl 1 rfl) ?_
          refine lv_if_eq (tgt := 120) hx hb dL_acts_106 (by decide) (fun c1 => ?_) (fun c1 => ?_)
          · have hr := br_p c1 hr
            refine lv_iconst (v := (0 : Int32)) hx hb dL_acts_120 (by decide) ?_
            obtain ⟨e1, e2⟩ := Prod.mk.inj (Option.some.inj hr)
            rw [← e1, ← e2]
            refine W.widen (k := 2) (n := 12) (Nat.le_of_ble_eq_true rfl) (Nat.le_of_ble_eq_true rfl) ?_
            exact zzret hx hb hr0 hlocks hW had (by decide) dL_acts_121
          · have hr := br_n c1 hr
            refine lv_aload_n hx hb dL_acts_109 rfl (lv_at hl 0 rfl) ?_
            obtain ⟨r_146, M_145, hc110, hr⟩ := ob2_e hr
            refine xz_i (va_runS (As := [.ref (ad_144 224)]) (rest := []) ⟨hx, hb, hml, hown, hts⟩ (c_L_closes l D cA ad_144 M_143 H.size hc110) (va_cwS 1 hts gL_acts_L_closes rfl rfl rfl (by decide +kernel) ⟨Nat.le_of_ble_eq_true rfl, Nat.le_of_ble_eq_true rfl⟩) (zpre hK hW) rfl rfl hl.1 rfl (lv_room (Nat.le_of_ble_eq_true rfl)) dL_acts_110 ⟨Nat.le_of_ble_eq_true rfl, Nat.le_of_ble_eq_true rfl⟩) hW hA (fun ad_147 H locs had2 hW => ?_)
            rw [← had2.1 224 rfl] at hl
            have had := adR_tr had had2
            refine lv_if_eq (tgt := 120) hx hb dL_acts_113 (by decide) (fun c1 => ?_) (fun c1 => ?_)
            · have hr := br_p c1 hr
              refine lv_iconst (v := (0 : Int32)) hx hb dL_acts_120 (by decide) ?_
              obtain ⟨e1, e2⟩ := Prod.mk.inj (Option.some.inj hr)
              rw [← e1, ← e2]
              exact zzret hx hb hr0 hlocks hW had (by decide) dL_acts_121
            · have hr := br_n c1 hr
              refine lv_iconst (v := (1 : Int32)) hx hb dL_acts_116 (by decide) ?_
              refine lv_goto (tgt := 121) hx hb dL_acts_117 (by decide) ?_
              obtain ⟨e1, e2⟩ := Prod.mk.inj (Option.some.inj hr)
              rw [← e1, ← e2]
              exact zzret hx hb hr0 hlocks hW had (by decide) dL_acts_121
        refine lv_icmp_ge (tgt := 104) hx hb dL_acts_40 (by decide) (fun c1 => ?_) (fun c1 => ?_)
        · have hr := br_p c1 hr
          exact hj104_147 _ _ _ hW (lv_sub hl [2, 5] rfl) hr
        · have hr := br_n c1 hr
          refine lv_iload hx hb dL_acts_43 (lv_at hl 5 rfl) ?_
          refine lv_if_eq (tgt := 104) hx hb dL_acts_45 (by decide) (fun c1 => ?_) (fun c1 => ?_)
          · have hr := br_p c1 hr
            exact hj104_147 _ _ _ hW (lv_sub hl [2, 5] rfl) hr
          · have hr := br_n c1 hr
            refine lv_iload_n hx hb dL_acts_48 rfl (lv_at hl 3 rfl) ?_
            refine lv_iconst (v := (4 : Int32)) hx hb dL_acts_49 (by decide) ?_
            refine lv_iload hx hb dL_acts_50 (lv_at hl 6 rfl) ?_
            refine lv_iadd hx hb dL_acts_52 ?_
            refine lv_ishr hx hb dL_acts_53 ?_
            refine lv_iconst (v := (5 : Int32)) hx hb dL_acts_54 (by decide) ?_
            obtain ⟨r_148, hc55, hr⟩ := ob1_e hr
            refine xk_i (va_runS (As := [.int (x1 >>> (((4 : Int32) + x7_142) &&& 31)), .int (5 : Int32)]) (rest := []) ⟨hx, hb, hml, hown, hts⟩ (c_L_low l D cA ad_144 M_143 (x1 >>> (((4 : Int32) + x7_142) &&& 31)) (5 : Int32) hc55) (va_cwS 2 hts gL_acts_L_low rfl rfl rfl (by decide +kernel) ⟨Nat.le_of_ble_eq_true rfl, Nat.le_of_ble_eq_true rfl⟩) (xpreS hK hW) rfl rfl hl.1 rfl (lv_room (Nat.le_of_ble_eq_true rfl)) dL_acts_55 ⟨Nat.le_of_ble_eq_true rfl, Nat.le_of_ble_eq_true rfl⟩) hW (fun H locs hW => ?_)
            obtain ⟨y_149, M_150, hr, hr3⟩ := ob2_e hr
            have hj96_151 : ∀ (ad_151 : Nat → Nat) (H : Heap) (locs : List Loc) (ls : Array Slot), adR true true ad ad_151 → Xw D true cA ad_151 M_150 (AZ ad s.heap.size) s.heap H locs → lv_has ls 12 [(4, .int r_2), (3, .int r_1), (0, .ref (ad_151 224)), (1, .int x1), (2, .int x2), (7, .int x7_142)] → W p l e (headSpec wsL_acts { frames := 7, cells := 2, slots := 12, locals := 183 }).room s m args below meth c H locs 0 0 (MQ below (QiZ D cA ad s.heap.size r M') args s 2 12 (AZ ad s.heap.size)) (F0 m 96 ls [.int y_149]) := by
              intro ad_151 H locs ls had hW hl
              have hr := hr3
              refine lv_istore (lv' := [(6, .int y_149), (4, .int r_2), (3, .int r_1), (0, .ref (ad_151 224)), (1, .int x1), (2, .int x2), (7, .int x7_142)]) hx hb dL_acts_96 hl (by decide) rfl (fun ls hl => ?_)
              obtain ⟨x7_156, ex7_156, hr⟩ := lt1_e hr
              refine lv_iinc (v := x7_156) (lv' := [(7, .int x7_156), (6, .int y_149), (4, .int r_2), (3, .int r_1), (0, .ref (ad_151 224)), (1, .int x1), (2, .int x2)]) hx hb dL_acts_98 hl (k := 6) rfl (by rw [ex7_156]; rfl) (by decide) rfl (fun ls hl => ?_)
              refine lv_goto (tgt := 36) hx hb dL_acts_101 (by decide) ?_
              exact ih y_149 x7_156 M_150 ad_151 _ _ _ had hW (lv_sub hl [2, 3, 4, 5, 6, 1, 0] rfl) hr
            clear hr3
            refine lv_if_eq (tgt := 91) hx hb dL_acts_58 (by decide) (fun c1 => ?_) (fun c1 => ?_)
            · have hr := br_p c1 hr
              refine lv_iconst (v := (1 : Int32)) hx hb dL_acts_91 (by decide) ?_
              refine lv_goto (tgt := 96) hx hb dL_acts_92 (by decide) ?_
              obtain ⟨e1, e2⟩ := Prod.mk.inj (Option.some.inj hr)
              subst e1
              subst e2
              exact hj96_151 ad_144 _ _ _ had hW (lv_sub hl [0, 1, 2, 3, 4, 6] rfl)
            · have hr := br_n c1 hr
              refine lv_aload_n hx hb dL_acts_61 rfl (lv_at hl 2 rfl) ?_
              refine lv_iload hx hb dL_acts_62 (lv_at hl 6 rfl) ?_
              refine lv_iload_n hx hb dL_acts_64 rfl (lv_at hl 3 rfl) ?_
              refine lv_iload hx hb dL_acts_65 (lv_at hl 6 rfl) ?_
              refine lv_ishr hx hb dL_acts_67 ?_
              refine lv_iload_n hx hb dL_acts_68 rfl (lv_at hl 4 rfl) ?_
              refine lv_ixor hx hb dL_acts_69 ?_
              refine lv_iload_n hx hb dL_acts_70 rfl (lv_at hl 1 rfl) ?_
              refine lv_iconst (v := (4 : Int32)) hx hb dL_acts_71 (by decide) ?_
              obtain ⟨y_152, hr, hr3⟩ := ob1_e hr
              have hj85_152 : ∀ (H : Heap) (locs : List Loc) (ls : Array Slot), Xw D true cA ad_144 M_143 (AZ ad s.heap.size) s.heap H locs → lv_has ls 12 [(4, .int r_2), (3, .int r_1), (0, .ref (ad_144 224)), (1, .int x1), (2, .int x2), (7, .int x7_142)] → W p l e (headSpec wsL_acts { frames := 7, cells := 2, slots := 12, locals := 183 }).room s m args below meth c H locs 0 0 (MQ below (QiZ D cA ad s.heap.size r M') args s 2 12 (AZ ad s.heap.size)) (F0 m 85 ls [.int y_152, .int ((x1 >>> (x7_142 &&& 31)) ^^^ x2), .int x7_142, .ref (ad_144 224)]) := by
                intro H locs ls hW hl
                have hr := hr3
                obtain ⟨r_154, M_153, hc85, hr⟩ := ob2_e hr
                refine xc_i (va_runS (As := [.ref (ad_144 224), .int x7_142, .int ((x1 >>> (x7_142 &&& 31)) ^^^ x2), .int y_152]) (rest := []) ⟨hx, hb, hml, hown, hts⟩ (c_L_shoots l D cA ad_144 M_143 x7_142 ((x1 >>> (x7_142 &&& 31)) ^^^ x2) y_152 hc85) (va_cwS 4 hts gL_acts_L_shoots rfl rfl rfl (by decide +kernel) ⟨Nat.le_of_ble_eq_true rfl, Nat.le_of_ble_eq_true rfl⟩) (xpreS hK hW) rfl rfl hl.1 rfl (lv_room (Nat.le_of_ble_eq_true rfl)) dL_acts_85 ⟨Nat.le_of_ble_eq_true rfl, Nat.le_of_ble_eq_true rfl⟩) hW (fun ad_155 H locs had2 hW => ?_)
                rw [← had2.1 224 rfl] at hl
                have had := adR_tr had had2
                refine lv_if_eq (tgt := 95) hx hb dL_acts_88 (by decide) (fun c1 => ?_) (fun c1 => ?_)
                · have hr := br_p c1 hr
                  refine lv_iconst (v := (0 : Int32)) hx hb dL_acts_95 (by decide) ?_
                  obtain ⟨e1, e2⟩ := Prod.mk.inj (Option.some.inj hr)
                  subst e1
                  subst e2
                  exact hj96_151 ad_155 _ _ _ had hW (lv_sub hl [0, 1, 2, 3, 4, 5] rfl)
                · have hr := br_n c1 hr
                  refine lv_iconst (v := (1 : Int32)) hx hb dL_acts_91 (by decide) ?_
                  refine lv_goto (tgt := 96) hx hb dL_acts_92 (by decide) ?_
                  obtain ⟨e1, e2⟩ := Prod.mk.inj (Option.some.inj hr)
                  subst e1
                  subst e2
                  exact hj96_151 ad_155 _ _ _ had hW (lv_sub hl [0, 1, 2, 3, 4, 5] rfl)
              clear hr3
              refine lv_icmp_ge (tgt := 79) hx hb dL_acts_72 (by decide) (fun c1 => ?_) (fun c1 => ?_)
              · have hr := br_p c1 hr
                refine lv_iload_n hx hb dL_acts_79 rfl (lv_at hl 4 rfl) ?_
                refine lv_iload hx hb dL_acts_80 (lv_at hl 6 rfl) ?_
                refine lv_ishr hx hb dL_acts_82 ?_
                refine lv_iload_n hx hb dL_acts_83 rfl (lv_at hl 3 rfl) ?_
                refine lv_ixor hx hb dL_acts_84 ?_
                have e1 := Option.some.inj hr
                subst e1
                exact hj85_152 _ _ _ hW (lv_sub hl [0, 1, 2, 3, 4, 6] rfl)
              · have hr := br_n c1 hr
                refine lv_iload_n hx hb dL_acts_75 rfl (lv_at hl 4 rfl) ?_
                refine lv_goto (tgt := 85) hx hb dL_acts_76 (by decide) ?_
                have e1 := Option.some.inj hr
                subst e1
                exact hj85_152 _ _ _ hW (lv_sub hl [0, 1, 2, 3, 4, 6] rfl)
    exact hL36_144 1000 (1 : Int32) (0 : Int32) M ad _ _ _ adR_rf hW (lv_sub hl [3, 4, 5, 6, 7, 1, 0] rfl) hr

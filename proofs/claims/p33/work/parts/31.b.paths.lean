/-! THE LAW: paths, by gen_lawm.py -/
set_option maxHeartbeats 8000000 in
set_option maxRecDepth 100000 in
theorem c_L_paths (l : Launch) (D : va_G) (cA : Nat → ClassId) (ad : Nat → Nat) (M : Mm) {r : Int32} {M' : Mm} (hr : f_L_paths M = some (r, M')) : Met l yL_paths wsL_paths ({ frames := 5, cells := 0, slots := 0, locals := 122 }) (PcX D true cA ad M [.ref (ad 224)]) (QiX false D true cA ad r M') 0 0 (AX true ad) := by
  refine Met.ofW (cc := cL_paths) (maxL := 11) (ret := (some .boolean)) (by decide) rfl ?_
  intro p e s m args below meth c s₁ B hml hv
  obtain ⟨hav, hP0, hK⟩ := hv
  have hx := B.exec
  have hb := B.bytes
  have hr0 := B.returns
  have hts := atoms_spec (ws := wsL_paths) B.pre
  have hown : s.vm.findClass RL = some m.cls := findClass_of_methodNamed B.named
  have hlocks := B.notSynchronized
  have hW := xstart hP0
  have hl := lv_entry ([.ref (ad 224)]) (n := 11) (Nat.le_of_ble_eq_true rfl)
  have hef := lg_entry_eq m ([.ref (ad 224)]) 11
  rw [← hav] at hef
  rw [hef]
  clear hef
  generalize (lg_sl ([.ref (ad 224)]) ++ List.replicate (11 - (lg_sl ([.ref (ad 224)])).length) Slot.unset).toArray = ls at hl ⊢
  have hl : lv_has ls 11 [(0, .ref (ad 224))] := hl
  clear hP0
  unfold f_L_paths at hr
  refine lv_aload_n hx hb dL_paths_0 rfl (lv_at hl 0 rfl) ?_
  refine lv_iconst (v := (0 : Int32)) hx hb dL_paths_1 (by decide) ?_
  obtain ⟨r_1, hc2, hr⟩ := ob1_e hr
  refine xk_i (va_runV (As := [.int (0 : Int32)]) (rest := []) ⟨hx, hb, hml, hown, hts⟩ (c_X10_total l D cA ad M (0 : Int32) hc2) (cwV 1 hts gL_paths_X10_total rfl rfl rfl (by decide +kernel) ⟨Nat.le_of_ble_eq_true rfl, Nat.le_of_ble_eq_true rfl⟩) (xpreV hK hW (k := 224) rfl (by decide) rfl) rfl rfl hl.1 rfl (lv_room (Nat.le_of_ble_eq_true rfl)) dL_paths_2 ⟨Nat.le_of_ble_eq_true rfl, Nat.le_of_ble_eq_true rfl⟩) hW (fun H locs hW => ?_)
  refine lv_istore_n (lv' := [(1, .int r_1), (0, .ref (ad 224))]) hx hb dL_paths_5 rfl hl (by decide) rfl (fun ls hl => ?_)
  refine lv_iconst (v := (0 : Int32)) hx hb dL_paths_6 (by decide) ?_
  refine lv_istore_n (lv' := [(2, .int (0 : Int32)), (1, .int r_1), (0, .ref (ad 224))]) hx hb dL_paths_7 rfl hl (by decide) rfl (fun ls hl => ?_)
  refine lv_iconst (v := (0 : Int32)) hx hb dL_paths_8 (by decide) ?_
  refine lv_istore_n (lv' := [(3, .int (0 : Int32)), (2, .int (0 : Int32)), (1, .int r_1), (0, .ref (ad 224))]) hx hb dL_paths_9 rfl hl (by decide) rfl (fun ls hl => ?_)
  refine lv_iconst (v := (0 : Int32)) hx hb dL_paths_10 (by decide) ?_
  refine lv_istore (lv' := [(4, .int (0 : Int32)), (3, .int (0 : Int32)), (2, .int (0 : Int32)), (1, .int r_1), (0, .ref (ad 224))]) hx hb dL_paths_11 hl (by decide) rfl (fun ls hl => ?_)
  refine lv_iconst (v := (0 : Int32)) hx hb dL_paths_13 (by decide) ?_
  refine lv_istore (lv' := [(5, .int (0 : Int32)), (4, .int (0 : Int32)), (3, .int (0 : Int32)), (2, .int (0 : Int32)), (1, .int r_1), (0, .ref (ad 224))]) hx hb dL_paths_14 hl (by decide) rfl (fun ls hl => ?_)
  have hL16_5 : ∀ (n : Nat) (x2_2 : Int32) (x3_3 : Int32) (x4_4 : Int32) (x5_5 : Int32) (H : Heap) (locs : List Loc) (ls : Array Slot), Xw D true cA ad M (AX true ad) s.heap H locs → lv_has ls 11 [(1, .int r_1), (0, .ref (ad 224)), (2, .int x2_2), (3, .int x3_3), (4, .int x4_4), (5, .int x5_5)] → f_L_paths_L16 M r_1 n x2_2 x3_3 x4_4 x5_5 = some (r, M') → W p l e (headSpec wsL_paths { frames := 5, cells := 0, slots := 0, locals := 122 }).room s m args below meth c H locs 0 0 (MQ below (QiX false D true cA ad r M') args s 0 0 (AX true ad)) (F0 m 16 ls []) := by
    intro n
    induction n with
    | zero =>
      intro x2_2 x3_3 x4_4 x5_5 H locs ls hW hl hr
      exact absurd hr (by simp [f_L_paths_L16])
    | succ n ih =>
      intro x2_2 x3_3 x4_4 x5_5 H locs ls hW hl hr
      rw [f_L_paths_L16] at hr
      refine lv_iload hx hb dL_paths_16 (lv_at hl 5 rfl) ?_
      refine lv_iload_n hx hb dL_paths_18 rfl (lv_at hl 0 rfl) ?_
      refine lv_icmp_ge (tgt := 439) hx hb dL_paths_19 (by decide) (fun c1 => ?_) (fun c1 => ?_)
      · have hr := br_p c1 hr
        refine lv_aload_n hx hb dL_paths_439 rfl (lv_at hl 1 rfl) ?_
        obtain ⟨r_7, M_6, hc440, hr⟩ := ob2_e hr
        refine xk_i (va_runV (As := []) (rest := []) ⟨hx, hb, hml, hown, hts⟩ (c_X10_skipsNeeded l D cA ad M hc440) (cwV 0 hts gL_paths_X10_skipsNeeded rfl rfl rfl (by decide +kernel) ⟨Nat.le_of_ble_eq_true rfl, Nat.le_of_ble_eq_true rfl⟩) (xpreV hK hW (k := 224) rfl (by decide) rfl) rfl rfl hl.1 rfl (lv_room (Nat.le_of_ble_eq_true rfl)) dL_paths_440 ⟨Nat.le_of_ble_eq_true rfl, Nat.le_of_ble_eq_true rfl⟩) hW (fun H locs hW => ?_)
        refine lv_istore (lv' := [(5, .int r_7), (1, .int r_1), (0, .ref (ad 224)), (2, .int x2_2), (3, .int x3_3), (4, .int x4_4)]) hx hb dL_paths_443 hl (by decide) rfl (fun ls hl => ?_)
        refine lv_iconst (v := (0 : Int32)) hx hb dL_paths_445 (by decide) ?_
        refine lv_istore (lv' := [(6, .int (0 : Int32)), (5, .int r_7), (1, .int r_1), (0, .ref (ad 224)), (2, .int x2_2), (3, .int x3_3), (4, .int x4_4)]) hx hb dL_paths_446 hl (by decide) rfl (fun ls hl => ?_)
        refine lv_iconst (v := (0 : Int32)) hx hb dL_paths_448 (by decide) ?_
        refine lv_istore (lv' := [(7, .int (0 : Int32)), (6, .int (0 : Int32)), (5, .int r_7), (1, .int r_1), (0, .ref (ad 224)), (2, .int x2_2), (3, .int x3_3), (4, .int x4_4)]) hx hb dL_paths_449 hl (by decide) rfl (fun ls hl => ?_)
        refine lv_iconst (v := (0 : Int32)) hx hb dL_paths_451 (by decide) ?_
        refine lv_istore (lv' := [(8, .int (0 : Int32)), (7, .int (0 : Int32)), (6, .int (0 : Int32)), (5, .int r_7), (1, .int r_1), (0, .ref (ad 224)), (2, .int x2_2), (3, .int x3_3), (4, .int x4_4)]) hx hb dL_paths_452 hl (by decide) rfl (fun ls hl => ?_)
        have hL454_11 : ∀ (n : Nat) (x6_8 : Int32) (x7_9 : Int32) (x8_10 : Int32) (M_11 : Mm) (H : Heap) (locs : List Loc) (ls : Array Slot), Xw D true cA ad M_11 (AX true ad) s.heap H locs → lv_has ls 11 [(5, .int r_7), (1, .int r_1), (0, .ref (ad 224)), (2, .int x2_2), (3, .int x3_3), (4, .int x4_4), (6, .int x6_8), (7, .int x7_9), (8, .int x8_10)] → f_L_paths_L454 r_1 x2_2 x3_3 x4_4 r_7 n x6_8 x7_9 x8_10 M_11 = some (r, M') → W p l e (headSpec wsL_paths { frames := 5, cells := 0, slots := 0, locals := 122 }).room s m args below meth c H locs 0 0 (MQ below (QiX false D true cA ad r M') args s 0 0 (AX true ad)) (F0 m 454 ls []) := by
          intro n
          induction n with
          | zero =>
            intro x6_8 x7_9 x8_10 M_11 H locs ls hW hl hr
            exact absurd hr (by simp [f_L_paths_L454])
          | succ n ih =>
            intro x6_8 x7_9 x8_10 M_11 H locs ls hW hl hr
            rw [f_L_paths_L454] at hr
            refine lv_iload hx hb dL_paths_454 (lv_at hl 8 rfl) ?_
            refine lv_iload_n hx hb dL_paths_456 rfl (lv_at hl 1 rfl) ?_
            refine lv_icmp_ge (tgt := 589) hx hb dL_paths_457 (by decide) (fun c1 => ?_) (fun c1 => ?_)
            · have hr := br_p c1 hr
              refine lv_iload_n hx hb dL_paths_589 rfl (lv_at hl 3 rfl) ?_
              refine lv_iconst (v := (1 : Int32)) hx hb dL_paths_590 (by decide) ?_
              refine lv_iload_n hx hb dL_paths_591 rfl (lv_at hl 1 rfl) ?_
              refine lv_ishl hx hb dL_paths_592 ?_
              refine lv_iconst (v := (1 : Int32)) hx hb dL_paths_593 (by decide) ?_
              refine lv_isub hx hb dL_paths_594 ?_
              refine lv_icmp_ne (tgt := 724) hx hb dL_paths_595 (by decide) (fun c1 => ?_) (fun c1 => ?_)
              · have hr := br_n c1 hr
                refine lv_iconst (v := (0 : Int32)) hx hb dL_paths_724 (by decide) ?_
                obtain ⟨e1, e2⟩ := Prod.mk.inj (Option.some.inj hr)
                rw [← e1, ← e2]
                exact xzret hx hb hr0 hlocks hW adR_rf (by decide) dL_paths_725
              · have hr := br_p c1 hr
                refine lv_aload_n hx hb dL_paths_598 rfl (lv_at hl 2 rfl) ?_
                refine lv_iload_n hx hb dL_paths_599 rfl (lv_at hl 1 rfl) ?_
                obtain ⟨r_12, hc600, hr⟩ := ob1_e hr
                refine xk_i (va_runV (As := [.int r_1]) (rest := []) ⟨hx, hb, hml, hown, hts⟩ (c_X10_trust l D cA ad M_11 r_1 hc600) (cwV 1 hts gL_paths_X10_trust rfl rfl rfl (by decide +kernel) ⟨Nat.le_of_ble_eq_true rfl, Nat.le_of_ble_eq_true rfl⟩) (xpreV hK hW (k := 224) rfl (by decide) rfl) rfl rfl hl.1 rfl (lv_room (Nat.le_of_ble_eq_true rfl)) dL_paths_600 ⟨Nat.le_of_ble_eq_true rfl, Nat.le_of_ble_eq_true rfl⟩) hW (fun H locs hW => ?_)
                refine lv_ldc (v := (-2000000005 : Int32)) hx hb hown (hts _ (wm 1 rfl)) dL_paths_603 ?_
                refine lv_icmp_ne (tgt := 724) hx hb dL_paths_605 (by decide) (fun c1 => ?_) (fun c1 => ?_)
                · have hr := br_n c1 hr
                  refine lv_iconst (v := (0 : Int32)) hx hb dL_paths_724 (by decide) ?_
                  obtain ⟨e1, e2⟩ := Prod.mk.inj (Option.some.inj hr)
                  rw [← e1, ← e2]
                  exact xzret hx hb hr0 hlocks hW adR_rf (by decide) dL_paths_725
                · have hr := br_p c1 hr
                  refine lv_aload_n hx hb dL_paths_608 rfl (lv_at hl 2 rfl) ?_
                  refine lv_bipush (v := (7 : Int32)) hx hb dL_paths_609 (by decide) ?_
                  obtain ⟨r_13, hc611, hr⟩ := ob1_e hr
                  refine xk_i (va_runV (As := [.int (7 : Int32)]) (rest := []) ⟨hx, hb, hml, hown, hts⟩ (c_X10_total l D cA ad M_11 (7 : Int32) hc611) (cwV 1 hts gL_paths_X10_total rfl rfl rfl (by decide +kernel) ⟨Nat.le_of_ble_eq_true rfl, Nat.le_of_ble_eq_true rfl⟩) (xpreV hK hW (k := 224) rfl (by decide) rfl) rfl rfl hl.1 rfl (lv_room (Nat.le_of_ble_eq_true rfl)) dL_paths_611 ⟨Nat.le_of_ble_eq_true rfl, Nat.le_of_ble_eq_true rfl⟩) hW (fun H locs hW => ?_)
                  refine lv_iload_n hx hb dL_paths_614 rfl (lv_at hl 4 rfl) ?_
                  refine lv_icmp_ne (tgt := 724) hx hb dL_paths_615 (by decide) (fun c1 => ?_) (fun c1 => ?_)
                  · have hr := br_n c1 hr
                    refine lv_iconst (v := (0 : Int32)) hx hb dL_paths_724 (by decide) ?_
                    obtain ⟨e1, e2⟩ := Prod.mk.inj (Option.some.inj hr)
                    rw [← e1, ← e2]
                    exact xzret hx hb hr0 hlocks hW adR_rf (by decide) dL_paths_725
                  · have hr := br_p c1 hr
                    refine lv_aload_n hx hb dL_paths_618 rfl (lv_at hl 2 rfl) ?_
                    refine lv_iconst (v := (2 : Int32)) hx hb dL_paths_619 (by decide) ?_
                    obtain ⟨r_14, hc620, hr⟩ := ob1_e hr
                    refine xk_i (va_runV (As := [.int (2 : Int32)]) (rest := []) ⟨hx, hb, hml, hown, hts⟩ (c_X10_total l D cA ad M_11 (2 : Int32) hc620) (cwV 1 hts gL_paths_X10_total rfl rfl rfl (by decide +kernel) ⟨Nat.le_of_ble_eq_true rfl, Nat.le_of_ble_eq_true rfl⟩) (xpreV hK hW (k := 224) rfl (by decide) rfl) rfl rfl hl.1 rfl (lv_room (Nat.le_of_ble_eq_true rfl)) dL_paths_620 ⟨Nat.le_of_ble_eq_true rfl, Nat.le_of_ble_eq_true rfl⟩) hW (fun H locs hW => ?_)
                    refine lv_iload hx hb dL_paths_623 (lv_at hl 5 rfl) ?_
                    refine lv_icmp_ne (tgt := 724) hx hb dL_paths_625 (by decide) (fun c1 => ?_) (fun c1 => ?_)
                    · have hr := br_n c1 hr
                      refine lv_iconst (v := (0 : Int32)) hx hb dL_paths_724 (by decide) ?_
                      obtain ⟨e1, e2⟩ := Prod.mk.inj (Option.some.inj hr)
                      rw [← e1, ← e2]
                      exact xzret hx hb hr0 hlocks hW adR_rf (by decide) dL_paths_725
                    · have hr := br_p c1 hr
                      refine lv_aload_n hx hb dL_paths_628 rfl (lv_at hl 2 rfl) ?_
                      refine lv_iload_n hx hb dL_paths_629 rfl (lv_at hl 1 rfl) ?_
                      refine lv_iconst (v := (0 : Int32)) hx hb dL_paths_630 (by decide) ?_
                      obtain ⟨r_15, hc631, hr⟩ := ob1_e hr
                      refine xk_i (va_runV (As := [.int r_1, .int (0 : Int32)]) (rest := []) ⟨hx, hb, hml, hown, hts⟩ (c_X10_path l D cA ad M_11 r_1 (0 : Int32) hc631) (cwV 2 hts gL_paths_X10_path rfl rfl rfl (by decide +kernel) ⟨Nat.le_of_ble_eq_true rfl, Nat.le_of_ble_eq_true rfl⟩) (xpreV hK hW (k := 224) rfl (by decide) rfl) rfl rfl hl.1 rfl (lv_room (Nat.le_of_ble_eq_true rfl)) dL_paths_631 ⟨Nat.le_of_ble_eq_true rfl, Nat.le_of_ble_eq_true rfl⟩) hW (fun H locs hW => ?_)
                      refine lv_ldc (v := (-2000000001 : Int32)) hx hb hown (hts _ (wm 5 rfl)) dL_paths_634 ?_
                      refine lv_icmp_ne (tgt := 724) hx hb dL_paths_636 (by decide) (fun c1 => ?_) (fun c1 => ?_)
                      · have hr := br_n c1 hr
                        refine lv_iconst (v := (0 : Int32)) hx hb dL_paths_724 (by decide) ?_
                        obtain ⟨e1, e2⟩ := Prod.mk.inj (Option.some.inj hr)
                        rw [← e1, ← e2]
                        exact xzret hx hb hr0 hlocks hW adR_rf (by decide) dL_paths_725
                      · have hr := br_p c1 hr
                        refine lv_iload hx hb dL_paths_639 (lv_at hl 6 rfl) ?_
                        refine lv_iload hx hb dL_paths_641 (lv_at hl 0 rfl) ?_
                        refine lv_ldc (v := (-2000000005 : Int32)) hx hb hown (hts _ (wm 1 rfl)) dL_paths_643 ?_
                        obtain ⟨y_16, hr, hr3⟩ := ob1_e hr
                        have hj664_16 : ∀ (H : Heap) (locs : List Loc) (ls : Array Slot), Xw D true cA ad M_11 (AX true ad) s.heap H locs → lv_has ls 11 [(1, .int r_1), (0, .ref (ad 224)), (7, .int x7_9)] → W p l e (headSpec wsL_paths { frames := 5, cells := 0, slots := 0, locals := 122 }).room s m args below meth c H locs 0 0 (MQ below (QiX false D true cA ad r M') args s 0 0 (AX true ad)) (F0 m 664 ls [.int y_16, .int x6_8]) := by
                          intro H locs ls hW hl
                          have hr := hr3
                          refine lv_icmp_ne (tgt := 724) hx hb dL_paths_664 (by decide) (fun c1 => ?_) (fun c1 => ?_)
                          · have hr := br_n c1 hr
                            refine lv_iconst (v := (0 : Int32)) hx hb dL_paths_724 (by decide) ?_
                            obtain ⟨e1, e2⟩ := Prod.mk.inj (Option.some.inj hr)
                            rw [← e1, ← e2]
                            exact xzret hx hb hr0 hlocks hW adR_rf (by decide) dL_paths_725
                          · have hr := br_p c1 hr
                            refine lv_aload_n hx hb dL_paths_667 rfl (lv_at hl 1 rfl) ?_
                            obtain ⟨r_19, M_18, hc668, hr⟩ := ob2_e hr
                            refine xk_i (va_runV (As := []) (rest := []) ⟨hx, hb, hml, hown, hts⟩ (c_X10_wouldBe l D cA ad M_11 hc668) (cwV 0 hts gL_paths_X10_wouldBe rfl rfl rfl (by decide +kernel) ⟨Nat.le_of_ble_eq_true rfl, Nat.le_of_ble_eq_true rfl⟩) (xpreV hK hW (k := 224) rfl (by decide) rfl) rfl rfl hl.1 rfl (lv_room (Nat.le_of_ble_eq_true rfl)) dL_paths_668 ⟨Nat.le_of_ble_eq_true rfl, Nat.le_of_ble_eq_true rfl⟩) hW (fun H locs hW => ?_)
                            refine lv_iload_n hx hb dL_paths_671 rfl (lv_at hl 0 rfl) ?_
                            obtain ⟨y_20, M_21, hr, hr3⟩ := ob2_e hr
                            have hj694_21 : ∀ (H : Heap) (locs : List Loc) (ls : Array Slot), Xw D true cA ad M_21 (AX true ad) s.heap H locs → lv_has ls 11 [(1, .int r_1), (0, .ref (ad 224)), (7, .int x7_9)] → W p l e (headSpec wsL_paths { frames := 5, cells := 0, slots := 0, locals := 122 }).room s m args below meth c H locs 0 0 (MQ below (QiX false D true cA ad r M') args s 0 0 (AX true ad)) (F0 m 694 ls [.int y_20, .int r_19]) := by
                              intro H locs ls hW hl
                              have hr := hr3
                              refine lv_icmp_ne (tgt := 724) hx hb dL_paths_694 (by decide) (fun c1 => ?_) (fun c1 => ?_)
                              · have hr := br_n c1 hr
                                refine lv_iconst (v := (0 : Int32)) hx hb dL_paths_724 (by decide) ?_
                                obtain ⟨e1, e2⟩ := Prod.mk.inj (Option.some.inj hr)
                                rw [← e1, ← e2]
                                exact xzret hx hb hr0 hlocks hW adR_rf (by decide) dL_paths_725
                              · have hr := br_p c1 hr
                                refine lv_iload_n hx hb dL_paths_697 rfl (lv_at hl 0 rfl) ?_
                                refine lv_if_eq (tgt := 720) hx hb dL_paths_698 (by decide) (fun c1 => ?_) (fun c1 => ?_)
                                · have hr := br_p c1 hr
                                  refine lv_iconst (v := (1 : Int32)) hx hb dL_paths_720 (by decide) ?_
                                  refine lv_goto (tgt := 725) hx hb dL_paths_721 (by decide) ?_
                                  obtain ⟨e1, e2⟩ := Prod.mk.inj (Option.some.inj hr)
                                  rw [← e1, ← e2]
                                  exact xzret hx hb hr0 hlocks hW adR_rf (by decide) dL_paths_725
                                · have hr := br_n c1 hr
                                  refine lv_iload hx hb dL_paths_701 (lv_at hl 2 rfl) ?_
                                  refine lv_aload_n hx hb dL_paths_703 rfl (lv_at hl 1 rfl) ?_
                                  obtain ⟨r_25, M_24, hc704, hr⟩ := ob2_e hr
                                  refine xk_i (va_runV (As := []) (rest := [.int x7_9]) ⟨hx, hb, hml, hown, hts⟩ (c_X10_wouldBe l D cA ad M_21 hc704) (cwV 0 hts gL_paths_X10_wouldBe rfl rfl rfl (by decide +kernel) ⟨Nat.le_of_ble_eq_true rfl, Nat.le_of_ble_eq_true rfl⟩) (xpreV hK hW (k := 224) rfl (by decide) rfl) rfl rfl hl.1 rfl (lv_room (Nat.le_of_ble_eq_true rfl)) dL_paths_704 ⟨Nat.le_of_ble_eq_true rfl, Nat.le_of_ble_eq_true rfl⟩) hW (fun H locs hW => ?_)
                                  refine lv_ldc (v := (-2000000005 : Int32)) hx hb hown (hts _ (wm 1 rfl)) dL_paths_707 ?_
                                  obtain ⟨y_26, hr, hr3⟩ := ob1_e hr
                                  have hj717_26 : ∀ (H : Heap) (locs : List Loc) (ls : Array Slot), Xw D true cA ad M_24 (AX true ad) s.heap H locs → lv_has ls 11 [] → W p l e (headSpec wsL_paths { frames := 5, cells := 0, slots := 0, locals := 122 }).room s m args below meth c H locs 0 0 (MQ below (QiX false D true cA ad r M') args s 0 0 (AX true ad)) (F0 m 717 ls [.int y_26, .int x7_9]) := by
                                    intro H locs ls hW hl
                                    have hr := hr3
                                    refine lv_icmp_ne (tgt := 724) hx hb dL_paths_717 (by decide) (fun c1 => ?_) (fun c1 => ?_)
                                    · have hr := br_n c1 hr
                                      refine lv_iconst (v := (0 : Int32)) hx hb dL_paths_724 (by decide) ?_
                                      obtain ⟨e1, e2⟩ := Prod.mk.inj (Option.some.inj hr)
                                      rw [← e1, ← e2]
                                      exact xzret hx hb hr0 hlocks hW adR_rf (by decide) dL_paths_725
                                    · have hr := br_p c1 hr
                                      refine lv_iconst (v := (1 : Int32)) hx hb dL_paths_720 (by decide) ?_
                                      refine lv_goto (tgt := 725) hx hb dL_paths_721 (by decide) ?_
                                      obtain ⟨e1, e2⟩ := Prod.mk.inj (Option.some.inj hr)
                                      rw [← e1, ← e2]
                                      exact xzret hx hb hr0 hlocks hW adR_rf (by decide) dL_paths_725
                                  clear hr3
                                  refine lv_icmp_eq (tgt := 716) hx hb dL_paths_709 (by decide) (fun c1 => ?_) (fun c1 => ?_)
                                  · have hr := br_p c1 hr
                                    refine lv_iconst (v := (0 : Int32)) hx hb dL_paths_716 (by decide) ?_
                                    have e1 := Option.some.inj hr
                                    subst e1
                                    exact hj717_26 _ _ _ hW (lv_sub hl [] rfl)
                                  · have hr := br_n c1 hr
                                    refine lv_iconst (v := (1 : Int32)) hx hb dL_paths_712 (by decide) ?_
                                    refine lv_goto (tgt := 717) hx hb dL_paths_713 (by decide) ?_
                                    have e1 := Option.some.inj hr
                                    subst e1
                                    exact hj717_26 _ _ _ hW (lv_sub hl [] rfl)
                            clear hr3
                            refine lv_if_ne (tgt := 680) hx hb dL_paths_672 (by decide) (fun c1 => ?_) (fun c1 => ?_)
                            · have hr := br_n c1 hr
                              refine lv_iload hx hb dL_paths_680 (lv_at hl 2 rfl) ?_
                              refine lv_if_eq (tgt := 692) hx hb dL_paths_682 (by decide) (fun c1 => ?_) (fun c1 => ?_)
                              · have hr := br_p c1 hr
                                refine lv_ldc (v := (-2000000005 : Int32)) hx hb hown (hts _ (wm 1 rfl)) dL_paths_692 ?_
                                obtain ⟨e1, e2⟩ := Prod.mk.inj (Option.some.inj hr)
                                subst e1
                                subst e2
                                exact hj694_21 _ _ _ hW (lv_sub hl [0, 1, 2] rfl)
                              · have hr := br_n c1 hr
                                refine lv_aload_n hx hb dL_paths_685 rfl (lv_at hl 1 rfl) ?_
                                obtain ⟨r_23, M_22, hc686, hr⟩ := ob2_e hr
                                refine xk_i (va_runV (As := []) (rest := [.int r_19]) ⟨hx, hb, hml, hown, hts⟩ (c_X10_wouldBe l D cA ad M_18 hc686) (cwV 0 hts gL_paths_X10_wouldBe rfl rfl rfl (by decide +kernel) ⟨Nat.le_of_ble_eq_true rfl, Nat.le_of_ble_eq_true rfl⟩) (xpreV hK hW (k := 224) rfl (by decide) rfl) rfl rfl hl.1 rfl (lv_room (Nat.le_of_ble_eq_true rfl)) dL_paths_686 ⟨Nat.le_of_ble_eq_true rfl, Nat.le_of_ble_eq_true rfl⟩) hW (fun H locs hW => ?_)
                                refine lv_goto (tgt := 694) hx hb dL_paths_689 (by decide) ?_
                                obtain ⟨e1, e2⟩ := Prod.mk.inj (Option.some.inj hr)
                                subst e1
                                subst e2
                                exact hj694_21 _ _ _ hW (lv_sub hl [0, 1, 2] rfl)
                            · have hr := br_p c1 hr
                              refine lv_ldc (v := (-2000000003 : Int32)) hx hb hown (hts _ (wm 6 rfl)) dL_paths_675 ?_
                              refine lv_goto (tgt := 694) hx hb dL_paths_677 (by decide) ?_
                              obtain ⟨e1, e2⟩ := Prod.mk.inj (Option.some.inj hr)
                              subst e1
                              subst e2
                              exact hj694_21 _ _ _ hW (lv_sub hl [0, 1, 2] rfl)
                        clear hr3
                        refine lv_icmp_eq (tgt := 659) hx hb dL_paths_645 (by decide) (fun c1 => ?_) (fun c1 => ?_)
                        · have hr := br_p c1 hr
                          refine lv_iconst (v := (1 : Int32)) hx hb dL_paths_659 (by decide) ?_
                          refine lv_goto (tgt := 664) hx hb dL_paths_660 (by decide) ?_
                          have e1 := Option.some.inj hr
                          subst e1
                          exact hj664_16 _ _ _ hW (lv_sub hl [1, 2, 7] rfl)
                        · have hr := br_n c1 hr
                          refine lv_iload hx hb dL_paths_648 (lv_at hl 0 rfl) ?_
                          refine lv_aload_n hx hb dL_paths_650 rfl (lv_at hl 2 rfl) ?_
                          refine lv_bipush (v := (11 : Int32)) hx hb dL_paths_651 (by decide) ?_
                          obtain ⟨r_17, hc653, hr⟩ := ob1_e hr
                          refine xk_i (va_runV (As := [.int (11 : Int32)]) (rest := [.int r_7, .int x6_8]) ⟨hx, hb, hml, hown, hts⟩ (c_X10_total l D cA ad M_11 (11 : Int32) hc653) (cwV 1 hts gL_paths_X10_total rfl rfl rfl (by decide +kernel) ⟨Nat.le_of_ble_eq_true rfl, Nat.le_of_ble_eq_true rfl⟩) (xpreV hK hW (k := 224) rfl (by decide) rfl) rfl rfl hl.1 rfl (lv_room (Nat.le_of_ble_eq_true rfl)) dL_paths_653 ⟨Nat.le_of_ble_eq_true rfl, Nat.le_of_ble_eq_true rfl⟩) hW (fun H locs hW => ?_)
                          refine lv_icmp_le (tgt := 663) hx hb dL_paths_656 (by decide) (fun c1 => ?_) (fun c1 => ?_)
                          · have hr := br_p c1 hr
                            refine lv_iconst (v := (0 : Int32)) hx hb dL_paths_663 (by decide) ?_
                            have e1 := Option.some.inj hr
                            subst e1
                            exact hj664_16 _ _ _ hW (lv_sub hl [1, 2, 7] rfl)
                          · have hr := br_n c1 hr
                            refine lv_iconst (v := (1 : Int32)) hx hb dL_paths_659 (by decide) ?_
                            refine lv_goto (tgt := 664) hx hb dL_paths_660 (by decide) ?_
                            have e1 := Option.some.inj hr
                            subst e1
                            exact hj664_16 _ _ _ hW (lv_sub hl [1, 2, 7] rfl)
            · have hr := br_n c1 hr
              refine lv_aload_n hx hb dL_paths_460 rfl (lv_at hl 2 rfl) ?_
              refine lv_iload hx hb dL_paths_461 (lv_at hl 8 rfl) ?_
              obtain ⟨r_28, M_27, hc463, hr⟩ := ob2_e hr
              refine xk_i (va_runV (As := [.int x8_10]) (rest := []) ⟨hx, hb, hml, hown, hts⟩ (c_X10_wouldBecome l D cA ad M_11 x8_10 hc463) (cwV 1 hts gL_paths_X10_wouldBecome rfl rfl rfl (by decide +kernel) ⟨Nat.le_of_ble_eq_true rfl, Nat.le_of_ble_eq_true rfl⟩) (xpreV hK hW (k := 224) rfl (by decide) rfl) rfl rfl hl.1 rfl (lv_room (Nat.le_of_ble_eq_true rfl)) dL_paths_463 ⟨Nat.le_of_ble_eq_true rfl, Nat.le_of_ble_eq_true rfl⟩) hW (fun H locs hW => ?_)
              refine lv_istore (lv' := [(9, .int r_28), (5, .int r_7), (1, .int r_1), (0, .ref (ad 224)), (2, .int x2_2), (3, .int x3_3), (4, .int x4_4), (6, .int x6_8), (7, .int x7_9), (8, .int x8_10)]) hx hb dL_paths_466 hl (by decide) rfl (fun ls hl => ?_)
              refine lv_iload hx hb dL_paths_468 (lv_at hl 7 rfl) ?_
              obtain ⟨y_29, hr, hr3⟩ := ob1_e hr
              have hj484_29 : ∀ (H : Heap) (locs : List Loc) (ls : Array Slot), Xw D true cA ad M_27 (AX true ad) s.heap H locs → lv_has ls 11 [(9, .int r_28), (5, .int r_7), (1, .int r_1), (0, .ref (ad 224)), (2, .int x2_2), (3, .int x3_3), (4, .int x4_4), (7, .int x7_9), (8, .int x8_10)] → W p l e (headSpec wsL_paths { frames := 5, cells := 0, slots := 0, locals := 122 }).room s m args below meth c H locs 0 0 (MQ below (QiX false D true cA ad r M') args s 0 0 (AX true ad)) (F0 m 484 ls [.int y_29]) := by
                intro H locs ls hW hl
                have hr := hr3
                refine lv_istore (lv' := [(6, .int y_29), (9, .int r_28), (5, .int r_7), (1, .int r_1), (0, .ref (ad 224)), (2, .int x2_2), (3, .int x3_3), (4, .int x4_4), (7, .int x7_9), (8, .int x8_10)]) hx hb dL_paths_484 hl (by decide) rfl (fun ls hl => ?_)
                refine lv_iload hx hb dL_paths_486 (lv_at hl 8 rfl) ?_
                obtain ⟨y_30, hr, hr3⟩ := ob1_e hr
                have hj502_30 : ∀ (H : Heap) (locs : List Loc) (ls : Array Slot), Xw D true cA ad M_27 (AX true ad) s.heap H locs → lv_has ls 11 [(6, .int y_29), (9, .int r_28), (5, .int r_7), (1, .int r_1), (0, .ref (ad 224)), (2, .int x2_2), (3, .int x3_3), (4, .int x4_4), (8, .int x8_10)] → W p l e (headSpec wsL_paths { frames := 5, cells := 0, slots := 0, locals := 122 }).room s m args below meth c H locs 0 0 (MQ below (QiX false D true cA ad r M') args s 0 0 (AX true ad)) (F0 m 502 ls [.int y_30]) := by
                  intro H locs ls hW hl
                  have hr := hr3
                  refine lv_istore (lv' := [(7, .int y_30), (6, .int y_29), (9, .int r_28), (5, .int r_7), (1, .int r_1), (0, .ref (ad 224)), (2, .int x2_2), (3, .int x3_3), (4, .int x4_4), (8, .int x8_10)]) hx hb dL_paths_502 hl (by decide) rfl (fun ls hl => ?_)
                  refine lv_iload hx hb dL_paths_504 (lv_at hl 2 rfl) ?_
                  obtain ⟨y_31, hr, hr3⟩ := ob1_e hr
                  have hj514_31 : ∀ (H : Heap) (locs : List Loc) (ls : Array Slot), Xw D true cA ad M_27 (AX true ad) s.heap H locs → lv_has ls 11 [(7, .int y_30), (6, .int y_29), (9, .int r_28), (5, .int r_7), (1, .int r_1), (0, .ref (ad 224)), (2, .int x2_2), (3, .int x3_3), (4, .int x4_4), (8, .int x8_10)] → W p l e (headSpec wsL_paths { frames := 5, cells := 0, slots := 0, locals := 122 }).room s m args below meth c H locs 0 0 (MQ below (QiX false D true cA ad r M') args s 0 0 (AX true ad)) (F0 m 514 ls [.int y_31]) := by
                    intro H locs ls hW hl
                    have hr := hr3
                    refine lv_aload_n hx hb dL_paths_514 rfl (lv_at hl 5 rfl) ?_
                    refine lv_iload hx hb dL_paths_515 (lv_at hl 9 rfl) ?_
                    refine lv_iconst (v := (0 : Int32)) hx hb dL_paths_517 (by decide) ?_
                    obtain ⟨r_32, hc518, hr⟩ := ob1_e hr
                    refine xk_i (va_runV (As := [.int x8_10, .int (0 : Int32)]) (rest := [.int y_31]) ⟨hx, hb, hml, hown, hts⟩ (c_X10_told l D cA ad M_27 x8_10 (0 : Int32) hc518) (cwV 2 hts gL_paths_X10_told rfl rfl rfl (by decide +kernel) ⟨Nat.le_of_ble_eq_true rfl, Nat.le_of_ble_eq_true rfl⟩) (xpreV hK hW (k := 224) rfl (by decide) rfl) rfl rfl hl.1 rfl (lv_room (Nat.le_of_ble_eq_true rfl)) dL_paths_518 ⟨Nat.le_of_ble_eq_true rfl, Nat.le_of_ble_eq_true rfl⟩) hW (fun H locs hW => ?_)
                    refine lv_ldc (v := (-2000000005 : Int32)) hx hb hown (hts _ (wm 1 rfl)) dL_paths_521 ?_
                    obtain ⟨y_33, hr, hr3⟩ := ob1_e hr
                    have hj531_33 : ∀ (H : Heap) (locs : List Loc) (ls : Array Slot), Xw D true cA ad M_27 (AX true ad) s.heap H locs → lv_has ls 11 [(7, .int y_30), (6, .int y_29), (9, .int r_28), (5, .int r_7), (1, .int r_1), (0, .ref (ad 224)), (2, .int x2_2), (3, .int x3_3), (4, .int x4_4), (8, .int x8_10)] → W p l e (headSpec wsL_paths { frames := 5, cells := 0, slots := 0, locals := 122 }).room s m args below meth c H locs 0 0 (MQ below (QiX false D true cA ad r M') args s 0 0 (AX true ad)) (F0 m 531 ls [.int y_33, .int y_31]) := by
                      intro H locs ls hW hl
                      have hr := hr3
                      refine lv_icmp_ne (tgt := 581) hx hb dL_paths_531 (by decide) (fun c1 => ?_) (fun c1 => ?_)
                      · have hr := br_n c1 hr
                        refine lv_iconst (v := (0 : Int32)) hx hb dL_paths_581 (by decide) ?_
                        obtain ⟨e1, e2⟩ := Prod.mk.inj (Option.some.inj hr)
                        rw [← e1, ← e2]
                        exact xzret hx hb hr0 hlocks hW adR_rf (by decide) dL_paths_582
                      · have hr := br_p c1 hr
                        refine lv_iload hx hb dL_paths_534 (lv_at hl 2 rfl) ?_
                        refine lv_iconst (v := (1 : Int32)) hx hb dL_paths_536 (by decide) ?_
                        obtain ⟨y_34, hr, hr3⟩ := ob1_e hr
                        have hj545_34 : ∀ (H : Heap) (locs : List Loc) (ls : Array Slot), Xw D true cA ad M_27 (AX true ad) s.heap H locs → lv_has ls 11 [(7, .int y_30), (6, .int y_29), (5, .int r_7), (1, .int r_1), (0, .ref (ad 224)), (2, .int x2_2), (3, .int x3_3), (4, .int x4_4), (8, .int x8_10)] → W p l e (headSpec wsL_paths { frames := 5, cells := 0, slots := 0, locals := 122 }).room s m args below meth c H locs 0 0 (MQ below (QiX false D true cA ad r M') args s 0 0 (AX true ad)) (F0 m 545 ls [.int y_34]) := by
                          intro H locs ls hW hl
                          have hr := hr3
                          refine lv_aload_n hx hb dL_paths_545 rfl (lv_at hl 4 rfl) ?_
                          refine lv_iload hx hb dL_paths_546 (lv_at hl 8 rfl) ?_
                          refine lv_iconst (v := (2 : Int32)) hx hb dL_paths_548 (by decide) ?_
                          obtain ⟨r_35, hc549, hr⟩ := ob1_e hr
                          refine xk_i (va_runV (As := [.int x8_10, .int (2 : Int32)]) (rest := [.int y_34]) ⟨hx, hb, hml, hown, hts⟩ (c_X10_told l D cA ad M_27 x8_10 (2 : Int32) hc549) (cwV 2 hts gL_paths_X10_told rfl rfl rfl (by decide +kernel) ⟨Nat.le_of_ble_eq_true rfl, Nat.le_of_ble_eq_true rfl⟩) (xpreV hK hW (k := 224) rfl (by decide) rfl) rfl rfl hl.1 rfl (lv_room (Nat.le_of_ble_eq_true rfl)) dL_paths_549 ⟨Nat.le_of_ble_eq_true rfl, Nat.le_of_ble_eq_true rfl⟩) hW (fun H locs hW => ?_)
                          refine lv_ldc (v := (-2000000005 : Int32)) hx hb hown (hts _ (wm 1 rfl)) dL_paths_552 ?_
                          obtain ⟨y_36, hr, hr3⟩ := ob1_e hr
                          have hj578_36 : ∀ (H : Heap) (locs : List Loc) (ls : Array Slot), Xw D true cA ad M_27 (AX true ad) s.heap H locs → lv_has ls 11 [(7, .int y_30), (6, .int y_29), (5, .int r_7), (1, .int r_1), (0, .ref (ad 224)), (2, .int x2_2), (3, .int x3_3), (4, .int x4_4), (8, .int x8_10)] → W p l e (headSpec wsL_paths { frames := 5, cells := 0, slots := 0, locals := 122 }).room s m args below meth c H locs 0 0 (MQ below (QiX false D true cA ad r M') args s 0 0 (AX true ad)) (F0 m 578 ls [.int y_36, .int y_34]) := by
                            intro H locs ls hW hl
                            have hr := hr3
                            refine lv_icmp_eq (tgt := 583) hx hb dL_paths_578 (by decide) (fun c1 => ?_) (fun c1 => ?_)
                            · have hr := br_p c1 hr
                              obtain ⟨x8_39, ex8_39, hr⟩ := lt1_e hr
                              refine lv_iinc (v := x8_39) (lv' := [(8, .int x8_39), (7, .int y_30), (6, .int y_29), (5, .int r_7), (1, .int r_1), (0, .ref (ad 224)), (2, .int x2_2), (3, .int x3_3), (4, .int x4_4)]) hx hb dL_paths_583 hl (k := 8) rfl (by rw [ex8_39]; rfl) (by decide) rfl (fun ls hl => ?_)
                              refine lv_goto (tgt := 454) hx hb dL_paths_586 (by decide) ?_
                              exact ih y_29 y_30 x8_39 M_27 _ _ _ hW (lv_sub hl [3, 4, 5, 6, 7, 8, 2, 1, 0] rfl) hr
                            · have hr := br_n c1 hr
                              refine lv_iconst (v := (0 : Int32)) hx hb dL_paths_581 (by decide) ?_
                              obtain ⟨e1, e2⟩ := Prod.mk.inj (Option.some.inj hr)
                              rw [← e1, ← e2]
                              exact xzret hx hb hr0 hlocks hW adR_rf (by decide) dL_paths_582
                          clear hr3
                          refine lv_icmp_eq (tgt := 577) hx hb dL_paths_554 (by decide) (fun c1 => ?_) (fun c1 => ?_)
                          · have hr := br_p c1 hr
                            refine lv_iconst (v := (0 : Int32)) hx hb dL_paths_577 (by decide) ?_
                            have e1 := Option.some.inj hr
                            subst e1
                            exact hj578_36 _ _ _ hW (lv_sub hl [0, 1, 2, 3, 4, 5, 6, 7, 8] rfl)
                          · have hr := br_n c1 hr
                            refine lv_aload_n hx hb dL_paths_557 rfl (lv_at hl 4 rfl) ?_
                            refine lv_iload hx hb dL_paths_558 (lv_at hl 8 rfl) ?_
                            refine lv_iconst (v := (2 : Int32)) hx hb dL_paths_560 (by decide) ?_
                            obtain ⟨r_37, hc561, hr⟩ := ob1_e hr
                            refine xk_i (va_runV (As := [.int x8_10, .int (2 : Int32)]) (rest := [.int y_34]) ⟨hx, hb, hml, hown, hts⟩ (c_X10_told l D cA ad M_27 x8_10 (2 : Int32) hc561) (cwV 2 hts gL_paths_X10_told rfl rfl rfl (by decide +kernel) ⟨Nat.le_of_ble_eq_true rfl, Nat.le_of_ble_eq_true rfl⟩) (xpreV hK hW (k := 224) rfl (by decide) rfl) rfl rfl hl.1 rfl (lv_room (Nat.le_of_ble_eq_true rfl)) dL_paths_561 ⟨Nat.le_of_ble_eq_true rfl, Nat.le_of_ble_eq_true rfl⟩) hW (fun H locs hW => ?_)
                            refine lv_aload_n hx hb dL_paths_564 rfl (lv_at hl 4 rfl) ?_
                            refine lv_bipush (v := (10 : Int32)) hx hb dL_paths_565 (by decide) ?_
                            obtain ⟨r_38, hc567, hr⟩ := ob1_e hr
                            refine xk_i (va_runV (As := [.int (10 : Int32)]) (rest := [.int r_37, .int y_34]) ⟨hx, hb, hml, hown, hts⟩ (c_X10_total l D cA ad M_27 (10 : Int32) hc567) (cwV 1 hts gL_paths_X10_total rfl rfl rfl (by decide +kernel) ⟨Nat.le_of_ble_eq_true rfl, Nat.le_of_ble_eq_true rfl⟩) (xpreV hK hW (k := 224) rfl (by decide) rfl) rfl rfl hl.1 rfl (lv_room (Nat.le_of_ble_eq_true rfl)) dL_paths_567 ⟨Nat.le_of_ble_eq_true rfl, Nat.le_of_ble_eq_true rfl⟩) hW (fun H locs hW => ?_)
                            refine lv_icmp_ge (tgt := 577) hx hb dL_paths_570 (by decide) (fun c1 => ?_) (fun c1 => ?_)
                            · have hr := br_p c1 hr
                              refine lv_iconst (v := (0 : Int32)) hx hb dL_paths_577 (by decide) ?_
                              have e1 := Option.some.inj hr
                              subst e1
                              exact hj578_36 _ _ _ hW (lv_sub hl [0, 1, 2, 3, 4, 5, 6, 7, 8] rfl)
                            · have hr := br_n c1 hr
                              refine lv_iconst (v := (1 : Int32)) hx hb dL_paths_573 (by decide) ?_
                              refine lv_goto (tgt := 578) hx hb dL_paths_574 (by decide) ?_
                              have e1 := Option.some.inj hr
                              subst e1
                              exact hj578_36 _ _ _ hW (lv_sub hl [0, 1, 2, 3, 4, 5, 6, 7, 8] rfl)
                        clear hr3
                        refine lv_icmp_ne (tgt := 544) hx hb dL_paths_537 (by decide) (fun c1 => ?_) (fun c1 => ?_)
                        · have hr := br_n c1 hr
                          refine lv_iconst (v := (0 : Int32)) hx hb dL_paths_544 (by decide) ?_
                          have e1 := Option.some.inj hr
                          subst e1
                          exact hj545_34 _ _ _ hW (lv_sub hl [0, 1, 3, 4, 5, 6, 7, 8, 9] rfl)
                        · have hr := br_p c1 hr
                          refine lv_iconst (v := (1 : Int32)) hx hb dL_paths_540 (by decide) ?_
                          refine lv_goto (tgt := 545) hx hb dL_paths_541 (by decide) ?_
                          have e1 := Option.some.inj hr
                          subst e1
                          exact hj545_34 _ _ _ hW (lv_sub hl [0, 1, 3, 4, 5, 6, 7, 8, 9] rfl)
                    clear hr3
                    refine lv_icmp_ne (tgt := 530) hx hb dL_paths_523 (by decide) (fun c1 => ?_) (fun c1 => ?_)
                    · have hr := br_n c1 hr
                      refine lv_iconst (v := (0 : Int32)) hx hb dL_paths_530 (by decide) ?_
                      have e1 := Option.some.inj hr
                      subst e1
                      exact hj531_33 _ _ _ hW (lv_sub hl [0, 1, 2, 3, 4, 5, 6, 7, 8, 9] rfl)
                    · have hr := br_p c1 hr
                      refine lv_iconst (v := (1 : Int32)) hx hb dL_paths_526 (by decide) ?_
                      refine lv_goto (tgt := 531) hx hb dL_paths_527 (by decide) ?_
                      have e1 := Option.some.inj hr
                      subst e1
                      exact hj531_33 _ _ _ hW (lv_sub hl [0, 1, 2, 3, 4, 5, 6, 7, 8, 9] rfl)
                  clear hr3
                  refine lv_if_ne (tgt := 513) hx hb dL_paths_506 (by decide) (fun c1 => ?_) (fun c1 => ?_)
                  · have hr := br_n c1 hr
                    refine lv_iconst (v := (0 : Int32)) hx hb dL_paths_513 (by decide) ?_
                    have e1 := Option.some.inj hr
                    subst e1
                    exact hj514_31 _ _ _ hW (lv_sub hl [0, 1, 2, 3, 4, 5, 6, 7, 8, 9] rfl)
                  · have hr := br_p c1 hr
                    refine lv_iconst (v := (1 : Int32)) hx hb dL_paths_509 (by decide) ?_
                    refine lv_goto (tgt := 514) hx hb dL_paths_510 (by decide) ?_
                    have e1 := Option.some.inj hr
                    subst e1
                    exact hj514_31 _ _ _ hW (lv_sub hl [0, 1, 2, 3, 4, 5, 6, 7, 8, 9] rfl)
                clear hr3
                refine lv_if_ne (tgt := 497) hx hb dL_paths_488 (by decide) (fun c1 => ?_) (fun c1 => ?_)
                · have hr := br_n c1 hr
                  refine lv_iconst (v := (1 : Int32)) hx hb dL_paths_497 (by decide) ?_
                  refine lv_goto (tgt := 502) hx hb dL_paths_498 (by decide) ?_
                  have e1 := Option.some.inj hr
                  subst e1
                  exact hj502_30 _ _ _ hW (lv_sub hl [0, 1, 2, 3, 4, 5, 6, 7, 9] rfl)
                · have hr := br_p c1 hr
                  refine lv_iload hx hb dL_paths_491 (lv_at hl 1 rfl) ?_
                  refine lv_iconst (v := (2 : Int32)) hx hb dL_paths_493 (by decide) ?_
                  refine lv_icmp_le (tgt := 501) hx hb dL_paths_494 (by decide) (fun c1 => ?_) (fun c1 => ?_)
                  · have hr := br_p c1 hr
                    refine lv_iconst (v := (0 : Int32)) hx hb dL_paths_501 (by decide) ?_
                    have e1 := Option.some.inj hr
                    subst e1
                    exact hj502_30 _ _ _ hW (lv_sub hl [0, 1, 2, 3, 4, 5, 6, 7, 9] rfl)
                  · have hr := br_n c1 hr
                    refine lv_iconst (v := (1 : Int32)) hx hb dL_paths_497 (by decide) ?_
                    refine lv_goto (tgt := 502) hx hb dL_paths_498 (by decide) ?_
                    have e1 := Option.some.inj hr
                    subst e1
                    exact hj502_30 _ _ _ hW (lv_sub hl [0, 1, 2, 3, 4, 5, 6, 7, 9] rfl)
              clear hr3
              refine lv_if_ne (tgt := 479) hx hb dL_paths_470 (by decide) (fun c1 => ?_) (fun c1 => ?_)
              · have hr := br_n c1 hr
                refine lv_iconst (v := (1 : Int32)) hx hb dL_paths_479 (by decide) ?_
                refine lv_goto (tgt := 484) hx hb dL_paths_480 (by decide) ?_
                have e1 := Option.some.inj hr
                subst e1
                exact hj484_29 _ _ _ hW (lv_sub hl [0, 1, 2, 3, 4, 5, 6, 8, 9] rfl)
              · have hr := br_p c1 hr
                refine lv_iload hx hb dL_paths_473 (lv_at hl 0 rfl) ?_
                refine lv_iconst (v := (2 : Int32)) hx hb dL_paths_475 (by decide) ?_
                refine lv_icmp_ne (tgt := 483) hx hb dL_paths_476 (by decide) (fun c1 => ?_) (fun c1 => ?_)
                · have hr := br_n c1 hr
                  refine lv_iconst (v := (0 : Int32)) hx hb dL_paths_483 (by decide) ?_
                  have e1 := Option.some.inj hr
                  subst e1
                  exact hj484_29 _ _ _ hW (lv_sub hl [0, 1, 2, 3, 4, 5, 6, 8, 9] rfl)
                · have hr := br_p c1 hr
                  refine lv_iconst (v := (1 : Int32)) hx hb dL_paths_479 (by decide) ?_
                  refine lv_goto (tgt := 484) hx hb dL_paths_480 (by decide) ?_
                  have e1 := Option.some.inj hr
                  subst e1
                  exact hj484_29 _ _ _ hW (lv_sub hl [0, 1, 2, 3, 4, 5, 6, 8, 9] rfl)
        exact hL454_11 1000 (0 : Int32) (0 : Int32) (0 : Int32) M_6 _ _ _ hW (lv_sub hl [3, 4, 5, 6, 7, 8, 2, 1, 0] rfl) hr
      · have hr := br_n c1 hr
        refine lv_aload_n hx hb dL_paths_22 rfl (lv_at hl 1 rfl) ?_
        refine lv_iload hx hb dL_paths_23 (lv_at hl 5 rfl) ?_
        obtain ⟨r_40, hc25, hr⟩ := ob1_e hr
        refine xk_i (va_runV (As := [.int x5_5]) (rest := []) ⟨hx, hb, hml, hown, hts⟩ (c_X10_trust l D cA ad M x5_5 hc25) (cwV 1 hts gL_paths_X10_trust rfl rfl rfl (by decide +kernel) ⟨Nat.le_of_ble_eq_true rfl, Nat.le_of_ble_eq_true rfl⟩) (xpreV hK hW (k := 224) rfl (by decide) rfl) rfl rfl hl.1 rfl (lv_room (Nat.le_of_ble_eq_true rfl)) dL_paths_25 ⟨Nat.le_of_ble_eq_true rfl, Nat.le_of_ble_eq_true rfl⟩) hW (fun H locs hW => ?_)
        refine lv_istore (lv' := [(6, .int r_40), (1, .int r_1), (0, .ref (ad 224)), (2, .int x2_2), (3, .int x3_3), (4, .int x4_4), (5, .int x5_5)]) hx hb dL_paths_28 hl (by decide) rfl (fun ls hl => ?_)
        refine lv_aload_n hx hb dL_paths_30 rfl (lv_at hl 2 rfl) ?_
        refine lv_iload hx hb dL_paths_31 (lv_at hl 6 rfl) ?_
        refine lv_iconst (v := (5 : Int32)) hx hb dL_paths_33 (by decide) ?_
        obtain ⟨r_41, hc34, hr⟩ := ob1_e hr
        refine xk_i (va_runV (As := [.int x5_5, .int (5 : Int32)]) (rest := []) ⟨hx, hb, hml, hown, hts⟩ (c_X10_path l D cA ad M x5_5 (5 : Int32) hc34) (cwV 2 hts gL_paths_X10_path rfl rfl rfl (by decide +kernel) ⟨Nat.le_of_ble_eq_true rfl, Nat.le_of_ble_eq_true rfl⟩) (xpreV hK hW (k := 224) rfl (by decide) rfl) rfl rfl hl.1 rfl (lv_room (Nat.le_of_ble_eq_true rfl)) dL_paths_34 ⟨Nat.le_of_ble_eq_true rfl, Nat.le_of_ble_eq_true rfl⟩) hW (fun H locs hW => ?_)
        refine lv_istore (lv' := [(7, .int r_41), (6, .int r_40), (1, .int r_1), (0, .ref (ad 224)), (2, .int x2_2), (3, .int x3_3), (4, .int x4_4), (5, .int x5_5)]) hx hb dL_paths_37 hl (by decide) rfl (fun ls hl => ?_)
        refine lv_aload_n hx hb dL_paths_39 rfl (lv_at hl 3 rfl) ?_
        refine lv_iload hx hb dL_paths_40 (lv_at hl 7 rfl) ?_
        refine lv_bipush (v := (6 : Int32)) hx hb dL_paths_42 (by decide) ?_
        obtain ⟨r_42, hc44, hr⟩ := ob1_e hr
        refine xk_i (va_runV (As := [.int x5_5, .int (6 : Int32)]) (rest := []) ⟨hx, hb, hml, hown, hts⟩ (c_X10_path l D cA ad M x5_5 (6 : Int32) hc44) (cwV 2 hts gL_paths_X10_path rfl rfl rfl (by decide +kernel) ⟨Nat.le_of_ble_eq_true rfl, Nat.le_of_ble_eq_true rfl⟩) (xpreV hK hW (k := 224) rfl (by decide) rfl) rfl rfl hl.1 rfl (lv_room (Nat.le_of_ble_eq_true rfl)) dL_paths_44 ⟨Nat.le_of_ble_eq_true rfl, Nat.le_of_ble_eq_true rfl⟩) hW (fun H locs hW => ?_)
        refine lv_istore (lv' := [(8, .int r_42), (7, .int r_41), (6, .int r_40), (1, .int r_1), (0, .ref (ad 224)), (2, .int x2_2), (3, .int x3_3), (4, .int x4_4), (5, .int x5_5)]) hx hb dL_paths_47 hl (by decide) rfl (fun ls hl => ?_)
        refine lv_aload_n hx hb dL_paths_49 rfl (lv_at hl 4 rfl) ?_
        refine lv_iload hx hb dL_paths_50 (lv_at hl 8 rfl) ?_
        refine lv_iconst (v := (4 : Int32)) hx hb dL_paths_52 (by decide) ?_
        obtain ⟨r_43, hc53, hr⟩ := ob1_e hr
        refine xk_i (va_runV (As := [.int x5_5, .int (4 : Int32)]) (rest := []) ⟨hx, hb, hml, hown, hts⟩ (c_X10_path l D cA ad M x5_5 (4 : Int32) hc53) (cwV 2 hts gL_paths_X10_path rfl rfl rfl (by decide +kernel) ⟨Nat.le_of_ble_eq_true rfl, Nat.le_of_ble_eq_true rfl⟩) (xpreV hK hW (k := 224) rfl (by decide) rfl) rfl rfl hl.1 rfl (lv_room (Nat.le_of_ble_eq_true rfl)) dL_paths_53 ⟨Nat.le_of_ble_eq_true rfl, Nat.le_of_ble_eq_true rfl⟩) hW (fun H locs hW => ?_)
        refine lv_istore (lv' := [(9, .int r_43), (8, .int r_42), (7, .int r_41), (6, .int r_40), (1, .int r_1), (0, .ref (ad 224)), (2, .int x2_2), (3, .int x3_3), (4, .int x4_4), (5, .int x5_5)]) hx hb dL_paths_56 hl (by decide) rfl (fun ls hl => ?_)
        refine lv_aload_n hx hb dL_paths_58 rfl (lv_at hl 5 rfl) ?_
        refine lv_iload hx hb dL_paths_59 (lv_at hl 9 rfl) ?_
        refine lv_bipush (v := (8 : Int32)) hx hb dL_paths_61 (by decide) ?_
        obtain ⟨r_44, hc63, hr⟩ := ob1_e hr
        refine xk_i (va_runV (As := [.int x5_5, .int (8 : Int32)]) (rest := []) ⟨hx, hb, hml, hown, hts⟩ (c_X10_path l D cA ad M x5_5 (8 : Int32) hc63) (cwV 2 hts gL_paths_X10_path rfl rfl rfl (by decide +kernel) ⟨Nat.le_of_ble_eq_true rfl, Nat.le_of_ble_eq_true rfl⟩) (xpreV hK hW (k := 224) rfl (by decide) rfl) rfl rfl hl.1 rfl (lv_room (Nat.le_of_ble_eq_true rfl)) dL_paths_63 ⟨Nat.le_of_ble_eq_true rfl, Nat.le_of_ble_eq_true rfl⟩) hW (fun H locs hW => ?_)
        refine lv_istore (lv' := [(10, .int r_44), (9, .int r_43), (8, .int r_42), (7, .int r_41), (6, .int r_40), (1, .int r_1), (0, .ref (ad 224)), (2, .int x2_2), (3, .int x3_3), (4, .int x4_4), (5, .int x5_5)]) hx hb dL_paths_66 hl (by decide) rfl (fun ls hl => ?_)
        refine lv_iload_n hx hb dL_paths_68 rfl (lv_at hl 7 rfl) ?_
        refine lv_iconst (v := (1 : Int32)) hx hb dL_paths_69 (by decide) ?_
        refine lv_iload hx hb dL_paths_70 (lv_at hl 4 rfl) ?_
        refine lv_ishl hx hb dL_paths_72 ?_
        refine lv_ior hx hb dL_paths_73 ?_
        obtain ⟨x2_45, ex2_45, hr⟩ := lt1_e hr
        rw [← ex2_45]
        refine lv_istore_n (lv' := [(2, .int x2_45), (10, .int r_44), (9, .int r_43), (8, .int r_42), (7, .int r_41), (6, .int r_40), (1, .int r_1), (0, .ref (ad 224)), (3, .int x3_3), (4, .int x4_4), (5, .int x5_5)]) hx hb dL_paths_74 rfl hl (by decide) rfl (fun ls hl => ?_)
        refine lv_iload_n hx hb dL_paths_75 rfl (lv_at hl 8 rfl) ?_
        refine lv_aload_n hx hb dL_paths_76 rfl (lv_at hl 7 rfl) ?_
        refine lv_iload hx hb dL_paths_77 (lv_at hl 10 rfl) ?_
        refine lv_bipush (v := (13 : Int32)) hx hb dL_paths_79 (by decide) ?_
        obtain ⟨r_46, hc81, hr⟩ := ob1_e hr
        refine xk_i (va_runV (As := [.int x5_5, .int (13 : Int32)]) (rest := [.int x3_3]) ⟨hx, hb, hml, hown, hts⟩ (c_X10_path l D cA ad M x5_5 (13 : Int32) hc81) (cwV 2 hts gL_paths_X10_path rfl rfl rfl (by decide +kernel) ⟨Nat.le_of_ble_eq_true rfl, Nat.le_of_ble_eq_true rfl⟩) (xpreV hK hW (k := 224) rfl (by decide) rfl) rfl rfl hl.1 rfl (lv_room (Nat.le_of_ble_eq_true rfl)) dL_paths_81 ⟨Nat.le_of_ble_eq_true rfl, Nat.le_of_ble_eq_true rfl⟩) hW (fun H locs hW => ?_)
        refine lv_iadd hx hb dL_paths_84 ?_
        obtain ⟨x3_47, ex3_47, hr⟩ := lt1_e hr
        rw [← ex3_47]
        refine lv_istore_n (lv' := [(3, .int x3_47), (2, .int x2_45), (10, .int r_44), (9, .int r_43), (8, .int r_42), (7, .int r_41), (6, .int r_40), (1, .int r_1), (0, .ref (ad 224)), (4, .int x4_4), (5, .int x5_5)]) hx hb dL_paths_85 rfl hl (by decide) rfl (fun ls hl => ?_)
        refine lv_iload hx hb dL_paths_86 (lv_at hl 9 rfl) ?_
        refine lv_aload_n hx hb dL_paths_88 rfl (lv_at hl 8 rfl) ?_
        refine lv_iload hx hb dL_paths_89 (lv_at hl 10 rfl) ?_
        refine lv_iconst (v := (0 : Int32)) hx hb dL_paths_91 (by decide) ?_
        obtain ⟨r_48, hc92, hr⟩ := ob1_e hr
        refine xk_i (va_runV (As := [.int x5_5, .int (0 : Int32)]) (rest := [.int x4_4]) ⟨hx, hb, hml, hown, hts⟩ (c_X10_told l D cA ad M x5_5 (0 : Int32) hc92) (cwV 2 hts gL_paths_X10_told rfl rfl rfl (by decide +kernel) ⟨Nat.le_of_ble_eq_true rfl, Nat.le_of_ble_eq_true rfl⟩) (xpreV hK hW (k := 224) rfl (by decide) rfl) rfl rfl hl.1 rfl (lv_room (Nat.le_of_ble_eq_true rfl)) dL_paths_92 ⟨Nat.le_of_ble_eq_true rfl, Nat.le_of_ble_eq_true rfl⟩) hW (fun H locs hW => ?_)
        refine lv_ldc (v := (-2000000005 : Int32)) hx hb hown (hts _ (wm 1 rfl)) dL_paths_95 ?_
        obtain ⟨y_49, hr, hr3⟩ := ob1_e hr
        have hj105_49 : ∀ (H : Heap) (locs : List Loc) (ls : Array Slot), Xw D true cA ad M (AX true ad) s.heap H locs → lv_has ls 11 [(3, .int x3_47), (2, .int x2_45), (10, .int r_44), (9, .int r_43), (8, .int r_42), (7, .int r_41), (6, .int r_40), (1, .int r_1), (0, .ref (ad 224)), (5, .int x5_5)] → W p l e (headSpec wsL_paths { frames := 5, cells := 0, slots := 0, locals := 122 }).room s m args below meth c H locs 0 0 (MQ below (QiX false D true cA ad r M') args s 0 0 (AX true ad)) (F0 m 105 ls [.int y_49, .int x4_4]) := by
          intro H locs ls hW hl
          have hr := hr3
          refine lv_iadd hx hb dL_paths_105 ?_
          obtain ⟨x4_50, ex4_50, hr⟩ := lt1_e hr
          rw [← ex4_50]
          refine lv_istore (lv' := [(4, .int x4_50), (3, .int x3_47), (2, .int x2_45), (10, .int r_44), (9, .int r_43), (8, .int r_42), (7, .int r_41), (6, .int r_40), (1, .int r_1), (0, .ref (ad 224)), (5, .int x5_5)]) hx hb dL_paths_106 hl (by decide) rfl (fun ls hl => ?_)
          refine lv_iload hx hb dL_paths_108 (lv_at hl 6 rfl) ?_
          refine lv_ldc (v := (-2000000005 : Int32)) hx hb hown (hts _ (wm 1 rfl)) dL_paths_110 ?_
          obtain ⟨y_51, hr, hr3⟩ := ob1_e hr
          have hj120_51 : ∀ (H : Heap) (locs : List Loc) (ls : Array Slot), Xw D true cA ad M (AX true ad) s.heap H locs → lv_has ls 11 [(4, .int x4_50), (3, .int x3_47), (2, .int x2_45), (10, .int r_44), (9, .int r_43), (8, .int r_42), (7, .int r_41), (6, .int r_40), (1, .int r_1), (0, .ref (ad 224)), (5, .int x5_5)] → W p l e (headSpec wsL_paths { frames := 5, cells := 0, slots := 0, locals := 122 }).room s m args below meth c H locs 0 0 (MQ below (QiX false D true cA ad r M') args s 0 0 (AX true ad)) (F0 m 120 ls [.int y_51]) := by
            intro H locs ls hW hl
            have hr := hr3
            refine lv_iload hx hb dL_paths_120 (lv_at hl 5 rfl) ?_
            refine lv_ldc (v := (-2000000005 : Int32)) hx hb hown (hts _ (wm 1 rfl)) dL_paths_122 ?_
            obtain ⟨y_52, hr, hr3⟩ := ob1_e hr
            have hj132_52 : ∀ (H : Heap) (locs : List Loc) (ls : Array Slot), Xw D true cA ad M (AX true ad) s.heap H locs → lv_has ls 11 [(4, .int x4_50), (3, .int x3_47), (2, .int x2_45), (10, .int r_44), (9, .int r_43), (8, .int r_42), (7, .int r_41), (6, .int r_40), (1, .int r_1), (0, .ref (ad 224)), (5, .int x5_5)] → W p l e (headSpec wsL_paths { frames := 5, cells := 0, slots := 0, locals := 122 }).room s m args below meth c H locs 0 0 (MQ below (QiX false D true cA ad r M') args s 0 0 (AX true ad)) (F0 m 132 ls [.int y_52, .int y_51]) := by
              intro H locs ls hW hl
              have hr := hr3
              refine lv_icmp_ne (tgt := 374) hx hb dL_paths_132 (by decide) (fun c1 => ?_) (fun c1 => ?_)
              · have hr := br_n c1 hr
                refine lv_iconst (v := (0 : Int32)) hx hb dL_paths_374 (by decide) ?_
                obtain ⟨e1, e2⟩ := Prod.mk.inj (Option.some.inj hr)
                rw [← e1, ← e2]
                exact xzret hx hb hr0 hlocks hW adR_rf (by decide) dL_paths_375
              · have hr := br_p c1 hr
                refine lv_iload hx hb dL_paths_135 (lv_at hl 6 rfl) ?_
                refine lv_ldc (v := (-2000000005 : Int32)) hx hb hown (hts _ (wm 1 rfl)) dL_paths_137 ?_
                have hj175_74 : ∀ (H : Heap) (locs : List Loc) (ls : Array Slot), Xw D true cA ad M (AX true ad) s.heap H locs → lv_has ls 11 [(4, .int x4_50), (3, .int x3_47), (2, .int x2_45), (10, .int r_44), (7, .int r_41), (6, .int r_40), (1, .int r_1), (0, .ref (ad 224)), (5, .int x5_5)] → f_L_paths_J175 M x5_5 r_40 r_41 r_44 x2_45 x3_47 x4_50 (f_L_paths_L16 M r_1 n) = some (r, M') → W p l e (headSpec wsL_paths { frames := 5, cells := 0, slots := 0, locals := 122 }).room s m args below meth c H locs 0 0 (MQ below (QiX false D true cA ad r M') args s 0 0 (AX true ad)) (F0 m 175 ls []) := by
                  intro H locs ls hW hl hr
                  unfold f_L_paths_J175 at hr
                  refine lv_iload hx hb dL_paths_175 (lv_at hl 4 rfl) ?_
                  refine lv_ldc (v := (-2000000005 : Int32)) hx hb hown (hts _ (wm 1 rfl)) dL_paths_177 ?_
                  have hj195_73 : ∀ (H : Heap) (locs : List Loc) (ls : Array Slot), Xw D true cA ad M (AX true ad) s.heap H locs → lv_has ls 11 [(4, .int x4_50), (3, .int x3_47), (2, .int x2_45), (10, .int r_44), (6, .int r_40), (1, .int r_1), (0, .ref (ad 224)), (5, .int x5_5)] → f_L_paths_J195 M x5_5 r_40 r_44 x2_45 x3_47 x4_50 (f_L_paths_L16 M r_1 n) = some (r, M') → W p l e (headSpec wsL_paths { frames := 5, cells := 0, slots := 0, locals := 122 }).room s m args below meth c H locs 0 0 (MQ below (QiX false D true cA ad r M') args s 0 0 (AX true ad)) (F0 m 195 ls []) := by
                    intro H locs ls hW hl hr
                    unfold f_L_paths_J195 at hr
                    refine lv_aload_n hx hb dL_paths_195 rfl (lv_at hl 6 rfl) ?_
                    refine lv_iload hx hb dL_paths_196 (lv_at hl 7 rfl) ?_
                    refine lv_bipush (v := (13 : Int32)) hx hb dL_paths_198 (by decide) ?_
                    obtain ⟨r_53, hc200, hr⟩ := ob1_e hr
                    refine xk_i (va_runV (As := [.int x5_5, .int (13 : Int32)]) (rest := []) ⟨hx, hb, hml, hown, hts⟩ (c_X10_path l D cA ad M x5_5 (13 : Int32) hc200) (cwV 2 hts gL_paths_X10_path rfl rfl rfl (by decide +kernel) ⟨Nat.le_of_ble_eq_true rfl, Nat.le_of_ble_eq_true rfl⟩) (xpreV hK hW (k := 224) rfl (by decide) rfl) rfl rfl hl.1 rfl (lv_room (Nat.le_of_ble_eq_true rfl)) dL_paths_200 ⟨Nat.le_of_ble_eq_true rfl, Nat.le_of_ble_eq_true rfl⟩) hW (fun H locs hW => ?_)
                    refine lv_iconst (v := (1 : Int32)) hx hb dL_paths_203 (by decide) ?_
                    obtain ⟨y_54, hr, hr3⟩ := ob1_e hr
                    have hj212_54 : ∀ (H : Heap) (locs : List Loc) (ls : Array Slot), Xw D true cA ad M (AX true ad) s.heap H locs → lv_has ls 11 [(4, .int x4_50), (3, .int x3_47), (2, .int x2_45), (10, .int r_44), (6, .int r_40), (1, .int r_1), (0, .ref (ad 224)), (5, .int x5_5)] → W p l e (headSpec wsL_paths { frames := 5, cells := 0, slots := 0, locals := 122 }).room s m args below meth c H locs 0 0 (MQ below (QiX false D true cA ad r M') args s 0 0 (AX true ad)) (F0 m 212 ls [.int y_54]) := by
                      intro H locs ls hW hl
                      have hr := hr3
                      refine lv_aload_n hx hb dL_paths_212 rfl (lv_at hl 6 rfl) ?_
                      refine lv_iload hx hb dL_paths_213 (lv_at hl 7 rfl) ?_
                      refine lv_bipush (v := (10 : Int32)) hx hb dL_paths_215 (by decide) ?_
                      obtain ⟨r_55, hc217, hr⟩ := ob1_e hr
                      refine xk_i (va_runV (As := [.int x5_5, .int (10 : Int32)]) (rest := [.int y_54]) ⟨hx, hb, hml, hown, hts⟩ (c_X10_path l D cA ad M x5_5 (10 : Int32) hc217) (cwV 2 hts gL_paths_X10_path rfl rfl rfl (by decide +kernel) ⟨Nat.le_of_ble_eq_true rfl, Nat.le_of_ble_eq_true rfl⟩) (xpreV hK hW (k := 224) rfl (by decide) rfl) rfl rfl hl.1 rfl (lv_room (Nat.le_of_ble_eq_true rfl)) dL_paths_217 ⟨Nat.le_of_ble_eq_true rfl, Nat.le_of_ble_eq_true rfl⟩) hW (fun H locs hW => ?_)
                      refine lv_iconst (v := (2 : Int32)) hx hb dL_paths_220 (by decide) ?_
                      obtain ⟨y_56, hr, hr3⟩ := ob1_e hr
                      have hj229_56 : ∀ (H : Heap) (locs : List Loc) (ls : Array Slot), Xw D true cA ad M (AX true ad) s.heap H locs → lv_has ls 11 [(4, .int x4_50), (3, .int x3_47), (2, .int x2_45), (10, .int r_44), (6, .int r_40), (1, .int r_1), (0, .ref (ad 224)), (5, .int x5_5)] → W p l e (headSpec wsL_paths { frames := 5, cells := 0, slots := 0, locals := 122 }).room s m args below meth c H locs 0 0 (MQ below (QiX false D true cA ad r M') args s 0 0 (AX true ad)) (F0 m 229 ls [.int y_56, .int y_54]) := by
                        intro H locs ls hW hl
                        have hr := hr3
                        refine lv_icmp_ne (tgt := 374) hx hb dL_paths_229 (by decide) (fun c1 => ?_) (fun c1 => ?_)
                        · have hr := br_n c1 hr
                          refine lv_iconst (v := (0 : Int32)) hx hb dL_paths_374 (by decide) ?_
                          obtain ⟨e1, e2⟩ := Prod.mk.inj (Option.some.inj hr)
                          rw [← e1, ← e2]
                          exact xzret hx hb hr0 hlocks hW adR_rf (by decide) dL_paths_375
                        · have hr := br_p c1 hr
                          refine lv_iload hx hb dL_paths_232 (lv_at hl 3 rfl) ?_
                          refine lv_iconst (v := (2 : Int32)) hx hb dL_paths_234 (by decide) ?_
                          have hj249_72 : ∀ (H : Heap) (locs : List Loc) (ls : Array Slot), Xw D true cA ad M (AX true ad) s.heap H locs → lv_has ls 11 [(4, .int x4_50), (3, .int x3_47), (2, .int x2_45), (10, .int r_44), (6, .int r_40), (1, .int r_1), (0, .ref (ad 224)), (5, .int x5_5)] → f_L_paths_J249 M x5_5 r_40 r_44 x2_45 x3_47 x4_50 (f_L_paths_L16 M r_1 n) = some (r, M') → W p l e (headSpec wsL_paths { frames := 5, cells := 0, slots := 0, locals := 122 }).room s m args below meth c H locs 0 0 (MQ below (QiX false D true cA ad r M') args s 0 0 (AX true ad)) (F0 m 249 ls []) := by
                            intro H locs ls hW hl hr
                            unfold f_L_paths_J249 at hr
                            refine lv_iload hx hb dL_paths_249 (lv_at hl 3 rfl) ?_
                            have hj271_71 : ∀ (H : Heap) (locs : List Loc) (ls : Array Slot), Xw D true cA ad M (AX true ad) s.heap H locs → lv_has ls 11 [(4, .int x4_50), (3, .int x3_47), (2, .int x2_45), (10, .int r_44), (6, .int r_40), (1, .int r_1), (0, .ref (ad 224)), (5, .int x5_5)] → f_L_paths_J271 M x5_5 r_40 r_44 x2_45 x3_47 x4_50 (f_L_paths_L16 M r_1 n) = some (r, M') → W p l e (headSpec wsL_paths { frames := 5, cells := 0, slots := 0, locals := 122 }).room s m args below meth c H locs 0 0 (MQ below (QiX false D true cA ad r M') args s 0 0 (AX true ad)) (F0 m 271 ls []) := by
                              intro H locs ls hW hl hr
                              unfold f_L_paths_J271 at hr
                              refine lv_iload hx hb dL_paths_271 (lv_at hl 3 rfl) ?_
                              refine lv_iconst (v := (2 : Int32)) hx hb dL_paths_273 (by decide) ?_
                              have hj303_69 : ∀ (H : Heap) (locs : List Loc) (ls : Array Slot), Xw D true cA ad M (AX true ad) s.heap H locs → lv_has ls 11 [(4, .int x4_50), (3, .int x3_47), (2, .int x2_45), (6, .int r_40), (1, .int r_1), (0, .ref (ad 224)), (5, .int x5_5)] → f_L_paths_J303 M x5_5 r_40 x2_45 x3_47 x4_50 (f_L_paths_L16 M r_1 n) = some (r, M') → W p l e (headSpec wsL_paths { frames := 5, cells := 0, slots := 0, locals := 122 }).room s m args below meth c H locs 0 0 (MQ below (QiX false D true cA ad r M') args s 0 0 (AX true ad)) (F0 m 303 ls []) := by
                                intro H locs ls hW hl hr
                                unfold f_L_paths_J303 at hr
                                refine lv_iload hx hb dL_paths_303 (lv_at hl 6 rfl) ?_
                                have hj333_66 : ∀ (H : Heap) (locs : List Loc) (ls : Array Slot), Xw D true cA ad M (AX true ad) s.heap H locs → lv_has ls 11 [(4, .int x4_50), (3, .int x3_47), (2, .int x2_45), (6, .int r_40), (1, .int r_1), (0, .ref (ad 224)), (5, .int x5_5)] → f_L_paths_J333 M x5_5 r_40 x2_45 x3_47 x4_50 (f_L_paths_L16 M r_1 n) = some (r, M') → W p l e (headSpec wsL_paths { frames := 5, cells := 0, slots := 0, locals := 122 }).room s m args below meth c H locs 0 0 (MQ below (QiX false D true cA ad r M') args s 0 0 (AX true ad)) (F0 m 333 ls []) := by
                                  intro H locs ls hW hl hr
                                  unfold f_L_paths_J333 at hr
                                  refine lv_aload_n hx hb dL_paths_333 rfl (lv_at hl 5 rfl) ?_
                                  refine lv_iload hx hb dL_paths_334 (lv_at hl 6 rfl) ?_
                                  refine lv_bipush (v := (7 : Int32)) hx hb dL_paths_336 (by decide) ?_
                                  obtain ⟨r_57, hc338, hr⟩ := ob1_e hr
                                  refine xk_i (va_runV (As := [.int x5_5, .int (7 : Int32)]) (rest := []) ⟨hx, hb, hml, hown, hts⟩ (c_X10_path l D cA ad M x5_5 (7 : Int32) hc338) (cwV 2 hts gL_paths_X10_path rfl rfl rfl (by decide +kernel) ⟨Nat.le_of_ble_eq_true rfl, Nat.le_of_ble_eq_true rfl⟩) (xpreV hK hW (k := 224) rfl (by decide) rfl) rfl rfl hl.1 rfl (lv_room (Nat.le_of_ble_eq_true rfl)) dL_paths_338 ⟨Nat.le_of_ble_eq_true rfl, Nat.le_of_ble_eq_true rfl⟩) hW (fun H locs hW => ?_)
                                  refine lv_ldc (v := (-2000000005 : Int32)) hx hb hown (hts _ (wm 1 rfl)) dL_paths_341 ?_
                                  have hj376_64 : ∀ (H : Heap) (locs : List Loc) (ls : Array Slot), Xw D true cA ad M (AX true ad) s.heap H locs → lv_has ls 11 [(4, .int x4_50), (3, .int x3_47), (2, .int x2_45), (6, .int r_40), (1, .int r_1), (0, .ref (ad 224)), (5, .int x5_5)] → f_L_paths_J376 M x5_5 r_40 x2_45 x3_47 x4_50 (f_L_paths_L16 M r_1 n) = some (r, M') → W p l e (headSpec wsL_paths { frames := 5, cells := 0, slots := 0, locals := 122 }).room s m args below meth c H locs 0 0 (MQ below (QiX false D true cA ad r M') args s 0 0 (AX true ad)) (F0 m 376 ls []) := by
                                    intro H locs ls hW hl hr
                                    unfold f_L_paths_J376 at hr
                                    refine lv_iload hx hb dL_paths_376 (lv_at hl 6 rfl) ?_
                                    have hj433_58 : ∀ (H : Heap) (locs : List Loc) (ls : Array Slot), Xw D true cA ad M (AX true ad) s.heap H locs → lv_has ls 11 [(4, .int x4_50), (3, .int x3_47), (2, .int x2_45), (1, .int r_1), (0, .ref (ad 224)), (5, .int x5_5)] → f_L_paths_J433 x5_5 x2_45 x3_47 x4_50 (f_L_paths_L16 M r_1 n) = some (r, M') → W p l e (headSpec wsL_paths { frames := 5, cells := 0, slots := 0, locals := 122 }).room s m args below meth c H locs 0 0 (MQ below (QiX false D true cA ad r M') args s 0 0 (AX true ad)) (F0 m 433 ls []) := by
                                      intro H locs ls hW hl hr
                                      unfold f_L_paths_J433 at hr
                                      obtain ⟨x5_58, ex5_58, hr⟩ := lt1_e hr
                                      refine lv_iinc (v := x5_58) (lv' := [(5, .int x5_58), (4, .int x4_50), (3, .int x3_47), (2, .int x2_45), (1, .int r_1), (0, .ref (ad 224))]) hx hb dL_paths_433 hl (k := 5) rfl (by rw [ex5_58]; rfl) (by decide) rfl (fun ls hl => ?_)
                                      refine lv_goto (tgt := 16) hx hb dL_paths_436 (by decide) ?_
                                      exact ih x2_45 x3_47 x4_50 x5_58 _ _ _ hW (lv_sub hl [4, 5, 3, 2, 1, 0] rfl) hr
                                    refine lv_if_le (tgt := 433) hx hb dL_paths_378 (by decide) (fun c1 => ?_) (fun c1 => ?_)
                                    · have hr := br_p c1 hr
                                      exact hj433_58 _ _ _ hW (lv_sub hl [0, 1, 2, 4, 5, 6] rfl) hr
                                    · have hr := br_n c1 hr
                                      refine lv_aload_n hx hb dL_paths_381 rfl (lv_at hl 5 rfl) ?_
                                      refine lv_iload hx hb dL_paths_382 (lv_at hl 3 rfl) ?_
                                      refine lv_bipush (v := (13 : Int32)) hx hb dL_paths_384 (by decide) ?_
                                      obtain ⟨r_59, hc386, hr⟩ := ob1_e hr
                                      refine xk_i (va_runV (As := [.int r_40, .int (13 : Int32)]) (rest := []) ⟨hx, hb, hml, hown, hts⟩ (c_X10_path l D cA ad M r_40 (13 : Int32) hc386) (cwV 2 hts gL_paths_X10_path rfl rfl rfl (by decide +kernel) ⟨Nat.le_of_ble_eq_true rfl, Nat.le_of_ble_eq_true rfl⟩) (xpreV hK hW (k := 224) rfl (by decide) rfl) rfl rfl hl.1 rfl (lv_room (Nat.le_of_ble_eq_true rfl)) dL_paths_386 ⟨Nat.le_of_ble_eq_true rfl, Nat.le_of_ble_eq_true rfl⟩) hW (fun H locs hW => ?_)
                                      refine lv_aload_n hx hb dL_paths_389 rfl (lv_at hl 5 rfl) ?_
                                      refine lv_aload_n hx hb dL_paths_390 rfl (lv_at hl 5 rfl) ?_
                                      refine lv_iload hx hb dL_paths_391 (lv_at hl 6 rfl) ?_
                                      refine lv_iconst (v := (1 : Int32)) hx hb dL_paths_393 (by decide) ?_
                                      refine lv_isub hx hb dL_paths_394 ?_
                                      obtain ⟨r_60, hc395, hr⟩ := ob1_e hr
                                      refine xk_i (va_runV (As := [.int (x5_5 - (1 : Int32))]) (rest := [.ref (ad 224), .int r_59]) ⟨hx, hb, hml, hown, hts⟩ (c_X10_trust l D cA ad M (x5_5 - (1 : Int32)) hc395) (cwV 1 hts gL_paths_X10_trust rfl rfl rfl (by decide +kernel) ⟨Nat.le_of_ble_eq_true rfl, Nat.le_of_ble_eq_true rfl⟩) (xpreV hK hW (k := 224) rfl (by decide) rfl) rfl rfl hl.1 rfl (lv_room (Nat.le_of_ble_eq_true rfl)) dL_paths_395 ⟨Nat.le_of_ble_eq_true rfl, Nat.le_of_ble_eq_true rfl⟩) hW (fun H locs hW => ?_)
                                      refine lv_bipush (v := (13 : Int32)) hx hb dL_paths_398 (by decide) ?_
                                      obtain ⟨r_61, hc400, hr⟩ := ob1_e hr
                                      refine xk_i (va_runV (As := [.int r_60, .int (13 : Int32)]) (rest := [.int r_59]) ⟨hx, hb, hml, hown, hts⟩ (c_X10_path l D cA ad M r_60 (13 : Int32) hc400) (cwV 2 hts gL_paths_X10_path rfl rfl rfl (by decide +kernel) ⟨Nat.le_of_ble_eq_true rfl, Nat.le_of_ble_eq_true rfl⟩) (xpreV hK hW (k := 224) rfl (by decide) rfl) rfl rfl hl.1 rfl (lv_room (Nat.le_of_ble_eq_true rfl)) dL_paths_400 ⟨Nat.le_of_ble_eq_true rfl, Nat.le_of_ble_eq_true rfl⟩) hW (fun H locs hW => ?_)
                                      refine lv_icmp_ne (tgt := 433) hx hb dL_paths_403 (by decide) (fun c1 => ?_) (fun c1 => ?_)
                                      · have hr := br_n c1 hr
                                        exact hj433_58 _ _ _ hW (lv_sub hl [0, 1, 2, 4, 5, 6] rfl) hr
                                      · have hr := br_p c1 hr
                                        refine lv_aload_n hx hb dL_paths_406 rfl (lv_at hl 5 rfl) ?_
                                        refine lv_iload hx hb dL_paths_407 (lv_at hl 3 rfl) ?_
                                        refine lv_bipush (v := (10 : Int32)) hx hb dL_paths_409 (by decide) ?_
                                        obtain ⟨r_62, hc411, hr⟩ := ob1_e hr
                                        refine xk_i (va_runV (As := [.int r_40, .int (10 : Int32)]) (rest := []) ⟨hx, hb, hml, hown, hts⟩ (c_X10_path l D cA ad M r_40 (10 : Int32) hc411) (cwV 2 hts gL_paths_X10_path rfl rfl rfl (by decide +kernel) ⟨Nat.le_of_ble_eq_true rfl, Nat.le_of_ble_eq_true rfl⟩) (xpreV hK hW (k := 224) rfl (by decide) rfl) rfl rfl hl.1 rfl (lv_room (Nat.le_of_ble_eq_true rfl)) dL_paths_411 ⟨Nat.le_of_ble_eq_true rfl, Nat.le_of_ble_eq_true rfl⟩) hW (fun H locs hW => ?_)
                                        refine lv_aload_n hx hb dL_paths_414 rfl (lv_at hl 5 rfl) ?_
                                        refine lv_aload_n hx hb dL_paths_415 rfl (lv_at hl 5 rfl) ?_
                                        refine lv_iload hx hb dL_paths_416 (lv_at hl 6 rfl) ?_
                                        refine lv_iconst (v := (1 : Int32)) hx hb dL_paths_418 (by decide) ?_
                                        refine lv_isub hx hb dL_paths_419 ?_
                                        obtain ⟨r_63, hc420, hr⟩ := ob1_e hr
                                        refine xk_i (va_runV (As := [.int (x5_5 - (1 : Int32))]) (rest := [.ref (ad 224), .int r_62]) ⟨hx, hb, hml, hown, hts⟩ (c_X10_trust l D cA ad M (x5_5 - (1 : Int32)) hc420) (cwV 1 hts gL_paths_X10_trust rfl rfl rfl (by decide +kernel) ⟨Nat.le_of_ble_eq_true rfl, Nat.le_of_ble_eq_true rfl⟩) (xpreV hK hW (k := 224) rfl (by decide) rfl) rfl rfl hl.1 rfl (lv_room (Nat.le_of_ble_eq_true rfl)) dL_paths_420 ⟨Nat.le_of_ble_eq_true rfl, Nat.le_of_ble_eq_true rfl⟩) hW (fun H locs hW => ?_)
                                        refine lv_bipush (v := (10 : Int32)) hx hb dL_paths_423 (by decide) ?_
                                        obtain ⟨r_64, hc425, hr⟩ := ob1_e hr
                                        refine xk_i (va_runV (As := [.int r_63, .int (10 : Int32)]) (rest := [.int r_62]) ⟨hx, hb, hml, hown, hts⟩ (c_X10_path l D cA ad M r_63 (10 : Int32) hc425) (cwV 2 hts gL_paths_X10_path rfl rfl rfl (by decide +kernel) ⟨Nat.le_of_ble_eq_true rfl, Nat.le_of_ble_eq_true rfl⟩) (xpreV hK hW (k := 224) rfl (by decide) rfl) rfl rfl hl.1 rfl (lv_room (Nat.le_of_ble_eq_true rfl)) dL_paths_425 ⟨Nat.le_of_ble_eq_true rfl, Nat.le_of_ble_eq_true rfl⟩) hW (fun H locs hW => ?_)
                                        refine lv_icmp_ge (tgt := 433) hx hb dL_paths_428 (by decide) (fun c1 => ?_) (fun c1 => ?_)
                                        · have hr := br_p c1 hr
                                          exact hj433_58 _ _ _ hW (lv_sub hl [0, 1, 2, 4, 5, 6] rfl) hr
                                        · have hr := br_n c1 hr
                                          refine lv_iconst (v := (0 : Int32)) hx hb dL_paths_431 (by decide) ?_
                                          obtain ⟨e1, e2⟩ := Prod.mk.inj (Option.some.inj hr)
                                          rw [← e1, ← e2]
                                          exact xzret hx hb hr0 hlocks hW adR_rf (by decide) dL_paths_432
                                  refine lv_icmp_eq (tgt := 376) hx hb dL_paths_343 (by decide) (fun c1 => ?_) (fun c1 => ?_)
                                  · have hr := br_p c1 hr
                                    exact hj376_64 _ _ _ hW (lv_sub hl [0, 1, 2, 3, 4, 5, 6] rfl) hr
                                  · have hr := br_n c1 hr
                                    refine lv_aload_n hx hb dL_paths_346 rfl (lv_at hl 5 rfl) ?_
                                    refine lv_iload hx hb dL_paths_347 (lv_at hl 6 rfl) ?_
                                    refine lv_bipush (v := (7 : Int32)) hx hb dL_paths_349 (by decide) ?_
                                    obtain ⟨r_65, hc351, hr⟩ := ob1_e hr
                                    refine xk_i (va_runV (As := [.int x5_5, .int (7 : Int32)]) (rest := []) ⟨hx, hb, hml, hown, hts⟩ (c_X10_path l D cA ad M x5_5 (7 : Int32) hc351) (cwV 2 hts gL_paths_X10_path rfl rfl rfl (by decide +kernel) ⟨Nat.le_of_ble_eq_true rfl, Nat.le_of_ble_eq_true rfl⟩) (xpreV hK hW (k := 224) rfl (by decide) rfl) rfl rfl hl.1 rfl (lv_room (Nat.le_of_ble_eq_true rfl)) dL_paths_351 ⟨Nat.le_of_ble_eq_true rfl, Nat.le_of_ble_eq_true rfl⟩) hW (fun H locs hW => ?_)
                                    refine lv_sipush (v := (-5000 : Int32)) hx hb dL_paths_354 (by decide) ?_
                                    refine lv_icmp_lt (tgt := 374) hx hb dL_paths_357 (by decide) (fun c1 => ?_) (fun c1 => ?_)
                                    · have hr := br_p c1 hr
                                      refine lv_iconst (v := (0 : Int32)) hx hb dL_paths_374 (by decide) ?_
                                      obtain ⟨e1, e2⟩ := Prod.mk.inj (Option.some.inj hr)
                                      rw [← e1, ← e2]
                                      exact xzret hx hb hr0 hlocks hW adR_rf (by decide) dL_paths_375
                                    · have hr := br_n c1 hr
                                      refine lv_aload_n hx hb dL_paths_360 rfl (lv_at hl 5 rfl) ?_
                                      refine lv_iload hx hb dL_paths_361 (lv_at hl 6 rfl) ?_
                                      refine lv_bipush (v := (7 : Int32)) hx hb dL_paths_363 (by decide) ?_
                                      obtain ⟨r_66, hc365, hr⟩ := ob1_e hr
                                      refine xk_i (va_runV (As := [.int x5_5, .int (7 : Int32)]) (rest := []) ⟨hx, hb, hml, hown, hts⟩ (c_X10_path l D cA ad M x5_5 (7 : Int32) hc365) (cwV 2 hts gL_paths_X10_path rfl rfl rfl (by decide +kernel) ⟨Nat.le_of_ble_eq_true rfl, Nat.le_of_ble_eq_true rfl⟩) (xpreV hK hW (k := 224) rfl (by decide) rfl) rfl rfl hl.1 rfl (lv_room (Nat.le_of_ble_eq_true rfl)) dL_paths_365 ⟨Nat.le_of_ble_eq_true rfl, Nat.le_of_ble_eq_true rfl⟩) hW (fun H locs hW => ?_)
                                      refine lv_sipush (v := (5000 : Int32)) hx hb dL_paths_368 (by decide) ?_
                                      refine lv_icmp_le (tgt := 376) hx hb dL_paths_371 (by decide) (fun c1 => ?_) (fun c1 => ?_)
                                      · have hr := br_p c1 hr
                                        exact hj376_64 _ _ _ hW (lv_sub hl [0, 1, 2, 3, 4, 5, 6] rfl) hr
                                      · have hr := br_n c1 hr
                                        refine lv_iconst (v := (0 : Int32)) hx hb dL_paths_374 (by decide) ?_
                                        obtain ⟨e1, e2⟩ := Prod.mk.inj (Option.some.inj hr)
                                        rw [← e1, ← e2]
                                        exact xzret hx hb hr0 hlocks hW adR_rf (by decide) dL_paths_375
                                refine lv_if_le (tgt := 333) hx hb dL_paths_305 (by decide) (fun c1 => ?_) (fun c1 => ?_)
                                · have hr := br_p c1 hr
                                  exact hj333_66 _ _ _ hW (lv_sub hl [0, 1, 2, 3, 4, 5, 6] rfl) hr
                                · have hr := br_n c1 hr
                                  refine lv_aload_n hx hb dL_paths_308 rfl (lv_at hl 5 rfl) ?_
                                  refine lv_iload hx hb dL_paths_309 (lv_at hl 3 rfl) ?_
                                  refine lv_bipush (v := (13 : Int32)) hx hb dL_paths_311 (by decide) ?_
                                  obtain ⟨r_67, hc313, hr⟩ := ob1_e hr
                                  refine xk_i (va_runV (As := [.int r_40, .int (13 : Int32)]) (rest := []) ⟨hx, hb, hml, hown, hts⟩ (c_X10_path l D cA ad M r_40 (13 : Int32) hc313) (cwV 2 hts gL_paths_X10_path rfl rfl rfl (by decide +kernel) ⟨Nat.le_of_ble_eq_true rfl, Nat.le_of_ble_eq_true rfl⟩) (xpreV hK hW (k := 224) rfl (by decide) rfl) rfl rfl hl.1 rfl (lv_room (Nat.le_of_ble_eq_true rfl)) dL_paths_313 ⟨Nat.le_of_ble_eq_true rfl, Nat.le_of_ble_eq_true rfl⟩) hW (fun H locs hW => ?_)
                                  refine lv_aload_n hx hb dL_paths_316 rfl (lv_at hl 5 rfl) ?_
                                  refine lv_aload_n hx hb dL_paths_317 rfl (lv_at hl 5 rfl) ?_
                                  refine lv_iload hx hb dL_paths_318 (lv_at hl 6 rfl) ?_
                                  refine lv_iconst (v := (1 : Int32)) hx hb dL_paths_320 (by decide) ?_
                                  refine lv_isub hx hb dL_paths_321 ?_
                                  obtain ⟨r_68, hc322, hr⟩ := ob1_e hr
                                  refine xk_i (va_runV (As := [.int (x5_5 - (1 : Int32))]) (rest := [.ref (ad 224), .int r_67]) ⟨hx, hb, hml, hown, hts⟩ (c_X10_trust l D cA ad M (x5_5 - (1 : Int32)) hc322) (cwV 1 hts gL_paths_X10_trust rfl rfl rfl (by decide +kernel) ⟨Nat.le_of_ble_eq_true rfl, Nat.le_of_ble_eq_true rfl⟩) (xpreV hK hW (k := 224) rfl (by decide) rfl) rfl rfl hl.1 rfl (lv_room (Nat.le_of_ble_eq_true rfl)) dL_paths_322 ⟨Nat.le_of_ble_eq_true rfl, Nat.le_of_ble_eq_true rfl⟩) hW (fun H locs hW => ?_)
                                  refine lv_bipush (v := (13 : Int32)) hx hb dL_paths_325 (by decide) ?_
                                  obtain ⟨r_69, hc327, hr⟩ := ob1_e hr
                                  refine xk_i (va_runV (As := [.int r_68, .int (13 : Int32)]) (rest := [.int r_67]) ⟨hx, hb, hml, hown, hts⟩ (c_X10_path l D cA ad M r_68 (13 : Int32) hc327) (cwV 2 hts gL_paths_X10_path rfl rfl rfl (by decide +kernel) ⟨Nat.le_of_ble_eq_true rfl, Nat.le_of_ble_eq_true rfl⟩) (xpreV hK hW (k := 224) rfl (by decide) rfl) rfl rfl hl.1 rfl (lv_room (Nat.le_of_ble_eq_true rfl)) dL_paths_327 ⟨Nat.le_of_ble_eq_true rfl, Nat.le_of_ble_eq_true rfl⟩) hW (fun H locs hW => ?_)
                                  refine lv_icmp_lt (tgt := 374) hx hb dL_paths_330 (by decide) (fun c1 => ?_) (fun c1 => ?_)
                                  · have hr := br_p c1 hr
                                    refine lv_iconst (v := (0 : Int32)) hx hb dL_paths_374 (by decide) ?_
                                    obtain ⟨e1, e2⟩ := Prod.mk.inj (Option.some.inj hr)
                                    rw [← e1, ← e2]
                                    exact xzret hx hb hr0 hlocks hW adR_rf (by decide) dL_paths_375
                                  · have hr := br_n c1 hr
                                    exact hj333_66 _ _ _ hW (lv_sub hl [0, 1, 2, 3, 4, 5, 6] rfl) hr
                              refine lv_icmp_le (tgt := 303) hx hb dL_paths_274 (by decide) (fun c1 => ?_) (fun c1 => ?_)
                              · have hr := br_p c1 hr
                                exact hj303_69 _ _ _ hW (lv_sub hl [0, 1, 2, 4, 5, 6, 7] rfl) hr
                              · have hr := br_n c1 hr
                                refine lv_aload_n hx hb dL_paths_277 rfl (lv_at hl 6 rfl) ?_
                                refine lv_iload hx hb dL_paths_278 (lv_at hl 7 rfl) ?_
                                refine lv_bipush (v := (9 : Int32)) hx hb dL_paths_280 (by decide) ?_
                                obtain ⟨r_70, hc282, hr⟩ := ob1_e hr
                                refine xk_i (va_runV (As := [.int x5_5, .int (9 : Int32)]) (rest := []) ⟨hx, hb, hml, hown, hts⟩ (c_X10_path l D cA ad M x5_5 (9 : Int32) hc282) (cwV 2 hts gL_paths_X10_path rfl rfl rfl (by decide +kernel) ⟨Nat.le_of_ble_eq_true rfl, Nat.le_of_ble_eq_true rfl⟩) (xpreV hK hW (k := 224) rfl (by decide) rfl) rfl rfl hl.1 rfl (lv_room (Nat.le_of_ble_eq_true rfl)) dL_paths_282 ⟨Nat.le_of_ble_eq_true rfl, Nat.le_of_ble_eq_true rfl⟩) hW (fun H locs hW => ?_)
                                refine lv_ldc (v := (-100000 : Int32)) hx hb hown (hts _ (wm 3 rfl)) dL_paths_285 ?_
                                refine lv_icmp_lt (tgt := 374) hx hb dL_paths_287 (by decide) (fun c1 => ?_) (fun c1 => ?_)
                                · have hr := br_p c1 hr
                                  refine lv_iconst (v := (0 : Int32)) hx hb dL_paths_374 (by decide) ?_
                                  obtain ⟨e1, e2⟩ := Prod.mk.inj (Option.some.inj hr)
                                  rw [← e1, ← e2]
                                  exact xzret hx hb hr0 hlocks hW adR_rf (by decide) dL_paths_375
                                · have hr := br_n c1 hr
                                  refine lv_aload_n hx hb dL_paths_290 rfl (lv_at hl 6 rfl) ?_
                                  refine lv_iload hx hb dL_paths_291 (lv_at hl 7 rfl) ?_
                                  refine lv_bipush (v := (9 : Int32)) hx hb dL_paths_293 (by decide) ?_
                                  obtain ⟨r_71, hc295, hr⟩ := ob1_e hr
                                  refine xk_i (va_runV (As := [.int x5_5, .int (9 : Int32)]) (rest := []) ⟨hx, hb, hml, hown, hts⟩ (c_X10_path l D cA ad M x5_5 (9 : Int32) hc295) (cwV 2 hts gL_paths_X10_path rfl rfl rfl (by decide +kernel) ⟨Nat.le_of_ble_eq_true rfl, Nat.le_of_ble_eq_true rfl⟩) (xpreV hK hW (k := 224) rfl (by decide) rfl) rfl rfl hl.1 rfl (lv_room (Nat.le_of_ble_eq_true rfl)) dL_paths_295 ⟨Nat.le_of_ble_eq_true rfl, Nat.le_of_ble_eq_true rfl⟩) hW (fun H locs hW => ?_)
                                  refine lv_ldc (v := (100000 : Int32)) hx hb hown (hts _ (wm 4 rfl)) dL_paths_298 ?_
                                  refine lv_icmp_gt (tgt := 374) hx hb dL_paths_300 (by decide) (fun c1 => ?_) (fun c1 => ?_)
                                  · have hr := br_p c1 hr
                                    refine lv_iconst (v := (0 : Int32)) hx hb dL_paths_374 (by decide) ?_
                                    obtain ⟨e1, e2⟩ := Prod.mk.inj (Option.some.inj hr)
                                    rw [← e1, ← e2]
                                    exact xzret hx hb hr0 hlocks hW adR_rf (by decide) dL_paths_375
                                  · have hr := br_n c1 hr
                                    exact hj303_69 _ _ _ hW (lv_sub hl [0, 1, 2, 4, 5, 6, 7] rfl) hr
                            refine lv_if_lt (tgt := 271) hx hb dL_paths_251 (by decide) (fun c1 => ?_) (fun c1 => ?_)
                            · have hr := br_p c1 hr
                              exact hj271_71 _ _ _ hW (lv_sub hl [0, 1, 2, 3, 4, 5, 6, 7] rfl) hr
                            · have hr := br_n c1 hr
                              refine lv_iload hx hb dL_paths_254 (lv_at hl 3 rfl) ?_
                              refine lv_iconst (v := (3 : Int32)) hx hb dL_paths_256 (by decide) ?_
                              refine lv_icmp_ge (tgt := 271) hx hb dL_paths_257 (by decide) (fun c1 => ?_) (fun c1 => ?_)
                              · have hr := br_p c1 hr
                                exact hj271_71 _ _ _ hW (lv_sub hl [0, 1, 2, 3, 4, 5, 6, 7] rfl) hr
                              · have hr := br_n c1 hr
                                refine lv_aload_n hx hb dL_paths_260 rfl (lv_at hl 6 rfl) ?_
                                refine lv_iload hx hb dL_paths_261 (lv_at hl 7 rfl) ?_
                                refine lv_bipush (v := (10 : Int32)) hx hb dL_paths_263 (by decide) ?_
                                obtain ⟨r_72, hc265, hr⟩ := ob1_e hr
                                refine xk_i (va_runV (As := [.int x5_5, .int (10 : Int32)]) (rest := []) ⟨hx, hb, hml, hown, hts⟩ (c_X10_path l D cA ad M x5_5 (10 : Int32) hc265) (cwV 2 hts gL_paths_X10_path rfl rfl rfl (by decide +kernel) ⟨Nat.le_of_ble_eq_true rfl, Nat.le_of_ble_eq_true rfl⟩) (xpreV hK hW (k := 224) rfl (by decide) rfl) rfl rfl hl.1 rfl (lv_room (Nat.le_of_ble_eq_true rfl)) dL_paths_265 ⟨Nat.le_of_ble_eq_true rfl, Nat.le_of_ble_eq_true rfl⟩) hW (fun H locs hW => ?_)
                                refine lv_if_eq (tgt := 374) hx hb dL_paths_268 (by decide) (fun c1 => ?_) (fun c1 => ?_)
                                · have hr := br_p c1 hr
                                  refine lv_iconst (v := (0 : Int32)) hx hb dL_paths_374 (by decide) ?_
                                  obtain ⟨e1, e2⟩ := Prod.mk.inj (Option.some.inj hr)
                                  rw [← e1, ← e2]
                                  exact xzret hx hb hr0 hlocks hW adR_rf (by decide) dL_paths_375
                                · have hr := br_n c1 hr
                                  exact hj271_71 _ _ _ hW (lv_sub hl [0, 1, 2, 3, 4, 5, 6, 7] rfl) hr
                          refine lv_icmp_le (tgt := 249) hx hb dL_paths_235 (by decide) (fun c1 => ?_) (fun c1 => ?_)
                          · have hr := br_p c1 hr
                            exact hj249_72 _ _ _ hW (lv_sub hl [0, 1, 2, 3, 4, 5, 6, 7] rfl) hr
                          · have hr := br_n c1 hr
                            refine lv_aload_n hx hb dL_paths_238 rfl (lv_at hl 6 rfl) ?_
                            refine lv_iload hx hb dL_paths_239 (lv_at hl 7 rfl) ?_
                            refine lv_bipush (v := (10 : Int32)) hx hb dL_paths_241 (by decide) ?_
                            obtain ⟨r_73, hc243, hr⟩ := ob1_e hr
                            refine xk_i (va_runV (As := [.int x5_5, .int (10 : Int32)]) (rest := []) ⟨hx, hb, hml, hown, hts⟩ (c_X10_path l D cA ad M x5_5 (10 : Int32) hc243) (cwV 2 hts gL_paths_X10_path rfl rfl rfl (by decide +kernel) ⟨Nat.le_of_ble_eq_true rfl, Nat.le_of_ble_eq_true rfl⟩) (xpreV hK hW (k := 224) rfl (by decide) rfl) rfl rfl hl.1 rfl (lv_room (Nat.le_of_ble_eq_true rfl)) dL_paths_243 ⟨Nat.le_of_ble_eq_true rfl, Nat.le_of_ble_eq_true rfl⟩) hW (fun H locs hW => ?_)
                            refine lv_if_ne (tgt := 374) hx hb dL_paths_246 (by decide) (fun c1 => ?_) (fun c1 => ?_)
                            · have hr := br_n c1 hr
                              refine lv_iconst (v := (0 : Int32)) hx hb dL_paths_374 (by decide) ?_
                              obtain ⟨e1, e2⟩ := Prod.mk.inj (Option.some.inj hr)
                              rw [← e1, ← e2]
                              exact xzret hx hb hr0 hlocks hW adR_rf (by decide) dL_paths_375
                            · have hr := br_p c1 hr
                              exact hj249_72 _ _ _ hW (lv_sub hl [0, 1, 2, 3, 4, 5, 6, 7] rfl) hr
                      clear hr3
                      refine lv_icmp_le (tgt := 228) hx hb dL_paths_221 (by decide) (fun c1 => ?_) (fun c1 => ?_)
                      · have hr := br_p c1 hr
                        refine lv_iconst (v := (0 : Int32)) hx hb dL_paths_228 (by decide) ?_
                        have e1 := Option.some.inj hr
                        subst e1
                        exact hj229_56 _ _ _ hW (lv_sub hl [0, 1, 2, 3, 4, 5, 6, 7] rfl)
                      · have hr := br_n c1 hr
                        refine lv_iconst (v := (1 : Int32)) hx hb dL_paths_224 (by decide) ?_
                        refine lv_goto (tgt := 229) hx hb dL_paths_225 (by decide) ?_
                        have e1 := Option.some.inj hr
                        subst e1
                        exact hj229_56 _ _ _ hW (lv_sub hl [0, 1, 2, 3, 4, 5, 6, 7] rfl)
                    clear hr3
                    refine lv_icmp_ne (tgt := 211) hx hb dL_paths_204 (by decide) (fun c1 => ?_) (fun c1 => ?_)
                    · have hr := br_n c1 hr
                      refine lv_iconst (v := (0 : Int32)) hx hb dL_paths_211 (by decide) ?_
                      have e1 := Option.some.inj hr
                      subst e1
                      exact hj212_54 _ _ _ hW (lv_sub hl [0, 1, 2, 3, 4, 5, 6, 7] rfl)
                    · have hr := br_p c1 hr
                      refine lv_iconst (v := (1 : Int32)) hx hb dL_paths_207 (by decide) ?_
                      refine lv_goto (tgt := 212) hx hb dL_paths_208 (by decide) ?_
                      have e1 := Option.some.inj hr
                      subst e1
                      exact hj212_54 _ _ _ hW (lv_sub hl [0, 1, 2, 3, 4, 5, 6, 7] rfl)
                  refine lv_icmp_ne (tgt := 195) hx hb dL_paths_179 (by decide) (fun c1 => ?_) (fun c1 => ?_)
                  · have hr := br_n c1 hr
                    exact hj195_73 _ _ _ hW (lv_sub hl [0, 1, 2, 3, 5, 6, 7, 8] rfl) hr
                  · have hr := br_p c1 hr
                    refine lv_aload_n hx hb dL_paths_182 rfl (lv_at hl 7 rfl) ?_
                    refine lv_iload hx hb dL_paths_183 (lv_at hl 8 rfl) ?_
                    obtain ⟨r_74, hc185, hr⟩ := ob1_e hr
                    refine xk_l (va_runV (As := [.int x5_5]) (rest := []) ⟨hx, hb, hml, hown, hts⟩ (c_X10_sound l D cA ad M x5_5 hc185) (cwV 1 hts gL_paths_X10_sound rfl rfl rfl (by decide +kernel) ⟨Nat.le_of_ble_eq_true rfl, Nat.le_of_ble_eq_true rfl⟩) (xpreV hK hW (k := 224) rfl (by decide) rfl) rfl rfl hl.1 rfl (lv_room (Nat.le_of_ble_eq_true rfl)) dL_paths_185 ⟨Nat.le_of_ble_eq_true rfl, Nat.le_of_ble_eq_true rfl⟩) hW (fun H locs hW => ?_)
                    refine lv_ldc2 (v := (-2000000005 : Int64)) hx hb hown (hts _ (wm 2 rfl)) dL_paths_188 ?_
                    refine xlc_ne (tgt := 374) hx hb dL_paths_191 dL_paths_192 (by decide) (fun c1 => ?_) (fun c1 => ?_)
                    · have hr := br_n c1 hr
                      refine lv_iconst (v := (0 : Int32)) hx hb dL_paths_374 (by decide) ?_
                      obtain ⟨e1, e2⟩ := Prod.mk.inj (Option.some.inj hr)
                      rw [← e1, ← e2]
                      exact xzret hx hb hr0 hlocks hW adR_rf (by decide) dL_paths_375
                    · have hr := br_p c1 hr
                      exact hj195_73 _ _ _ hW (lv_sub hl [0, 1, 2, 3, 5, 6, 7, 8] rfl) hr
                refine lv_icmp_eq (tgt := 175) hx hb dL_paths_139 (by decide) (fun c1 => ?_) (fun c1 => ?_)
                · have hr := br_p c1 hr
                  exact hj175_74 _ _ _ hW (lv_sub hl [0, 1, 2, 3, 6, 7, 8, 9, 10] rfl) hr
                · have hr := br_n c1 hr
                  refine lv_iload hx hb dL_paths_142 (lv_at hl 6 rfl) ?_
                  refine lv_iload hx hb dL_paths_144 (lv_at hl 4 rfl) ?_
                  refine lv_sipush (v := (1000 : Int32)) hx hb dL_paths_146 (by decide) ?_
                  refine lv_iadd hx hb dL_paths_149 ?_
                  refine lv_icmp_lt (tgt := 374) hx hb dL_paths_150 (by decide) (fun c1 => ?_) (fun c1 => ?_)
                  · have hr := br_p c1 hr
                    refine lv_iconst (v := (0 : Int32)) hx hb dL_paths_374 (by decide) ?_
                    obtain ⟨e1, e2⟩ := Prod.mk.inj (Option.some.inj hr)
                    rw [← e1, ← e2]
                    exact xzret hx hb hr0 hlocks hW adR_rf (by decide) dL_paths_375
                  · have hr := br_n c1 hr
                    refine lv_iload hx hb dL_paths_153 (lv_at hl 5 rfl) ?_
                    refine lv_iload hx hb dL_paths_155 (lv_at hl 4 rfl) ?_
                    refine lv_sipush (v := (1000 : Int32)) hx hb dL_paths_157 (by decide) ?_
                    refine lv_iadd hx hb dL_paths_160 ?_
                    refine lv_icmp_lt (tgt := 374) hx hb dL_paths_161 (by decide) (fun c1 => ?_) (fun c1 => ?_)
                    · have hr := br_p c1 hr
                      refine lv_iconst (v := (0 : Int32)) hx hb dL_paths_374 (by decide) ?_
                      obtain ⟨e1, e2⟩ := Prod.mk.inj (Option.some.inj hr)
                      rw [← e1, ← e2]
                      exact xzret hx hb hr0 hlocks hW adR_rf (by decide) dL_paths_375
                    · have hr := br_n c1 hr
                      refine lv_aload_n hx hb dL_paths_164 rfl (lv_at hl 9 rfl) ?_
                      refine lv_iload hx hb dL_paths_165 (lv_at hl 10 rfl) ?_
                      obtain ⟨r_75, hc167, hr⟩ := ob1_e hr
                      refine xk_l (va_runV (As := [.int x5_5]) (rest := []) ⟨hx, hb, hml, hown, hts⟩ (c_X10_sound l D cA ad M x5_5 hc167) (cwV 1 hts gL_paths_X10_sound rfl rfl rfl (by decide +kernel) ⟨Nat.le_of_ble_eq_true rfl, Nat.le_of_ble_eq_true rfl⟩) (xpreV hK hW (k := 224) rfl (by decide) rfl) rfl rfl hl.1 rfl (lv_room (Nat.le_of_ble_eq_true rfl)) dL_paths_167 ⟨Nat.le_of_ble_eq_true rfl, Nat.le_of_ble_eq_true rfl⟩) hW (fun H locs hW => ?_)
                      refine lv_lconst (v := (0 : Int64)) hx hb dL_paths_170 (by decide) ?_
                      refine xlc_le (tgt := 374) hx hb dL_paths_171 dL_paths_172 (by decide) (fun c1 => ?_) (fun c1 => ?_)
                      · have hr := br_p c1 hr
                        refine lv_iconst (v := (0 : Int32)) hx hb dL_paths_374 (by decide) ?_
                        obtain ⟨e1, e2⟩ := Prod.mk.inj (Option.some.inj hr)
                        rw [← e1, ← e2]
                        exact xzret hx hb hr0 hlocks hW adR_rf (by decide) dL_paths_375
                      · have hr := br_n c1 hr
                        exact hj175_74 _ _ _ hW (lv_sub hl [0, 1, 2, 3, 6, 7, 8, 9, 10] rfl) hr
            clear hr3
            refine lv_icmp_ne (tgt := 131) hx hb dL_paths_124 (by decide) (fun c1 => ?_) (fun c1 => ?_)
            · have hr := br_n c1 hr
              refine lv_iconst (v := (0 : Int32)) hx hb dL_paths_131 (by decide) ?_
              have e1 := Option.some.inj hr
              subst e1
              exact hj132_52 _ _ _ hW (lv_sub hl [0, 1, 2, 3, 4, 5, 6, 7, 8, 9, 10] rfl)
            · have hr := br_p c1 hr
              refine lv_iconst (v := (1 : Int32)) hx hb dL_paths_127 (by decide) ?_
              refine lv_goto (tgt := 132) hx hb dL_paths_128 (by decide) ?_
              have e1 := Option.some.inj hr
              subst e1
              exact hj132_52 _ _ _ hW (lv_sub hl [0, 1, 2, 3, 4, 5, 6, 7, 8, 9, 10] rfl)
          clear hr3
          refine lv_icmp_ne (tgt := 119) hx hb dL_paths_112 (by decide) (fun c1 => ?_) (fun c1 => ?_)
          · have hr := br_n c1 hr
            refine lv_iconst (v := (0 : Int32)) hx hb dL_paths_119 (by decide) ?_
            have e1 := Option.some.inj hr
            subst e1
            exact hj120_51 _ _ _ hW (lv_sub hl [0, 1, 2, 3, 4, 5, 6, 7, 8, 9, 10] rfl)
          · have hr := br_p c1 hr
            refine lv_iconst (v := (1 : Int32)) hx hb dL_paths_115 (by decide) ?_
            refine lv_goto (tgt := 120) hx hb dL_paths_116 (by decide) ?_
            have e1 := Option.some.inj hr
            subst e1
            exact hj120_51 _ _ _ hW (lv_sub hl [0, 1, 2, 3, 4, 5, 6, 7, 8, 9, 10] rfl)
        clear hr3
        refine lv_icmp_ne (tgt := 104) hx hb dL_paths_97 (by decide) (fun c1 => ?_) (fun c1 => ?_)
        · have hr := br_n c1 hr
          refine lv_iconst (v := (1 : Int32)) hx hb dL_paths_104 (by decide) ?_
          have e1 := Option.some.inj hr
          subst e1
          exact hj105_49 _ _ _ hW (lv_sub hl [0, 1, 2, 3, 4, 5, 6, 7, 8, 10] rfl)
        · have hr := br_p c1 hr
          refine lv_iconst (v := (0 : Int32)) hx hb dL_paths_100 (by decide) ?_
          refine lv_goto (tgt := 105) hx hb dL_paths_101 (by decide) ?_
          have e1 := Option.some.inj hr
          subst e1
          exact hj105_49 _ _ _ hW (lv_sub hl [0, 1, 2, 3, 4, 5, 6, 7, 8, 10] rfl)
  exact hL16_5 1000 (0 : Int32) (0 : Int32) (0 : Int32) (0 : Int32) _ _ _ hW (lv_sub hl [4, 5, 3, 2, 1, 0] rfl) hr

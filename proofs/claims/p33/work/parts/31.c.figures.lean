/-! THE LAW: figures, by gen_lawm.py -/
set_option maxHeartbeats 8000000 in
set_option maxRecDepth 100000 in
theorem c_L_figures (l : Launch) (D : va_G) (cA : Nat → ClassId) (ad : Nat → Nat) (M : Mm) {r : Int32} (hr : f_L_figures M = some r) : Met l yL_figures wsL_figures ({ frames := 4, cells := 0, slots := 0, locals := 90 }) (PcX D true cA ad M [.ref (ad 224)]) (QiX false D true cA ad r M) 0 0 (AX true ad) := by
  refine Met.ofW (cc := cL_figures) (maxL := 8) (ret := (some .boolean)) (by decide) rfl ?_
  intro p e s m args below meth c s₁ B hml hv
  obtain ⟨hav, hP0, hK⟩ := hv
  have hx := B.exec
  have hb := B.bytes
  have hr0 := B.returns
  have hts := atoms_spec (ws := wsL_figures) B.pre
  have hown : s.vm.findClass RL = some m.cls := findClass_of_methodNamed B.named
  have hlocks := B.notSynchronized
  have hW := xstart hP0
  have hl := lv_entry ([.ref (ad 224)]) (n := 8) (Nat.le_of_ble_eq_true rfl)
  have hef := lg_entry_eq m ([.ref (ad 224)]) 8
  rw [← hav] at hef
  rw [hef]
  clear hef
  generalize (lg_sl ([.ref (ad 224)]) ++ List.replicate (8 - (lg_sl ([.ref (ad 224)])).length) Slot.unset).toArray = ls at hl ⊢
  have hl : lv_has ls 8 [(0, .ref (ad 224))] := hl
  clear hP0
  unfold f_L_figures at hr
  refine lv_iconst (v := (0 : Int32)) hx hb dL_figures_0 (by decide) ?_
  refine lv_istore_n (lv' := [(1, .int (0 : Int32)), (0, .ref (ad 224))]) hx hb dL_figures_1 rfl hl (by decide) rfl (fun ls hl => ?_)
  refine lv_iconst (v := (0 : Int32)) hx hb dL_figures_2 (by decide) ?_
  refine lv_istore_n (lv' := [(2, .int (0 : Int32)), (1, .int (0 : Int32)), (0, .ref (ad 224))]) hx hb dL_figures_3 rfl hl (by decide) rfl (fun ls hl => ?_)
  refine lv_iconst (v := (0 : Int32)) hx hb dL_figures_4 (by decide) ?_
  refine lv_istore_n (lv' := [(3, .int (0 : Int32)), (2, .int (0 : Int32)), (1, .int (0 : Int32)), (0, .ref (ad 224))]) hx hb dL_figures_5 rfl hl (by decide) rfl (fun ls hl => ?_)
  refine lv_aload_n hx hb dL_figures_6 rfl (lv_at hl 3 rfl) ?_
  refine lv_iconst (v := (5 : Int32)) hx hb dL_figures_7 (by decide) ?_
  obtain ⟨r_1, hc8, hr⟩ := ob1_e hr
  refine xk_i (va_runV (As := [.int (5 : Int32)]) (rest := []) ⟨hx, hb, hml, hown, hts⟩ (c_X10_total l D cA ad M (5 : Int32) hc8) (cwV 1 hts gL_figures_X10_total rfl rfl rfl (by decide +kernel) ⟨Nat.le_of_ble_eq_true rfl, Nat.le_of_ble_eq_true rfl⟩) (xpreV hK hW (k := 224) rfl (by decide) rfl) rfl rfl hl.1 rfl (lv_room (Nat.le_of_ble_eq_true rfl)) dL_figures_8 ⟨Nat.le_of_ble_eq_true rfl, Nat.le_of_ble_eq_true rfl⟩) hW (fun H locs hW => ?_)
  refine lv_istore (lv' := [(4, .int r_1), (3, .int (0 : Int32)), (2, .int (0 : Int32)), (1, .int (0 : Int32)), (0, .ref (ad 224))]) hx hb dL_figures_11 hl (by decide) rfl (fun ls hl => ?_)
  refine lv_iconst (v := (0 : Int32)) hx hb dL_figures_13 (by decide) ?_
  refine lv_istore (lv' := [(5, .int (0 : Int32)), (4, .int r_1), (3, .int (0 : Int32)), (2, .int (0 : Int32)), (1, .int (0 : Int32)), (0, .ref (ad 224))]) hx hb dL_figures_14 hl (by decide) rfl (fun ls hl => ?_)
  have hL16_5 : ∀ (n : Nat) (x1_2 : Int32) (x2_3 : Int32) (x3_4 : Int32) (x5_5 : Int32) (H : Heap) (locs : List Loc) (ls : Array Slot), Xw D true cA ad M (AX true ad) s.heap H locs → lv_has ls 8 [(4, .int r_1), (0, .ref (ad 224)), (1, .int x1_2), (2, .int x2_3), (3, .int x3_4), (5, .int x5_5)] → f_L_figures_L16 M r_1 n x1_2 x2_3 x3_4 x5_5 = some r → W p l e (headSpec wsL_figures { frames := 4, cells := 0, slots := 0, locals := 90 }).room s m args below meth c H locs 0 0 (MQ below (QiX false D true cA ad r M) args s 0 0 (AX true ad)) (F0 m 16 ls []) := by
    intro n
    induction n with
    | zero =>
      intro x1_2 x2_3 x3_4 x5_5 H locs ls hW hl hr
      exact absurd hr (by simp [f_L_figures_L16])
    | succ n ih =>
      intro x1_2 x2_3 x3_4 x5_5 H locs ls hW hl hr
      rw [f_L_figures_L16] at hr
      refine lv_iload hx hb dL_figures_16 (lv_at hl 5 rfl) ?_
      refine lv_iload hx hb dL_figures_18 (lv_at hl 0 rfl) ?_
      refine lv_icmp_ge (tgt := 236) hx hb dL_figures_20 (by decide) (fun c1 => ?_) (fun c1 => ?_)
      · have hr := br_p c1 hr
        refine lv_aload_n hx hb dL_figures_236 rfl (lv_at hl 1 rfl) ?_
        refine lv_iconst (v := (0 : Int32)) hx hb dL_figures_237 (by decide) ?_
        obtain ⟨r_6, hc238, hr⟩ := ob1_e hr
        refine xk_i (va_runV (As := [.int (0 : Int32)]) (rest := []) ⟨hx, hb, hml, hown, hts⟩ (c_X10_statistic l D cA ad M (0 : Int32) hc238) (cwV 1 hts gL_figures_X10_statistic rfl rfl rfl (by decide +kernel) ⟨Nat.le_of_ble_eq_true rfl, Nat.le_of_ble_eq_true rfl⟩) (xpreV hK hW (k := 224) rfl (by decide) rfl) rfl rfl hl.1 rfl (lv_room (Nat.le_of_ble_eq_true rfl)) dL_figures_238 ⟨Nat.le_of_ble_eq_true rfl, Nat.le_of_ble_eq_true rfl⟩) hW (fun H locs hW => ?_)
        refine lv_iload_n hx hb dL_figures_241 rfl (lv_at hl 2 rfl) ?_
        obtain ⟨y_7, hr, hr3⟩ := ob1_e hr
        have hj332_7 : ∀ (H : Heap) (locs : List Loc) (ls : Array Slot), Xw D true cA ad M (AX true ad) s.heap H locs → lv_has ls 8 [(0, .ref (ad 224)), (1, .int x1_2), (2, .int x2_3), (3, .int x3_4)] → W p l e (headSpec wsL_figures { frames := 4, cells := 0, slots := 0, locals := 90 }).room s m args below meth c H locs 0 0 (MQ below (QiX false D true cA ad r M) args s 0 0 (AX true ad)) (F0 m 332 ls [.int y_7]) := by
          intro H locs ls hW hl
          have hr := hr3
          refine lv_istore (lv' := [(5, .int y_7), (0, .ref (ad 224)), (1, .int x1_2), (2, .int x2_3), (3, .int x3_4)]) hx hb dL_figures_332 hl (by decide) rfl (fun ls hl => ?_)
          refine lv_iconst (v := (1 : Int32)) hx hb dL_figures_334 (by decide) ?_
          refine lv_istore (lv' := [(6, .int (1 : Int32)), (5, .int y_7), (0, .ref (ad 224)), (1, .int x1_2), (2, .int x2_3), (3, .int x3_4)]) hx hb dL_figures_335 hl (by decide) rfl (fun ls hl => ?_)
          have hL337_18 : ∀ (n : Nat) (x5_17 : Int32) (x6_18 : Int32) (H : Heap) (locs : List Loc) (ls : Array Slot) (x5_19 : Int32), Xw D true cA ad M (AX true ad) s.heap H locs → lv_has ls 8 [(0, .ref (ad 224)), (1, .int x1_2), (2, .int x2_3), (3, .int x3_4), (5, .int x5_17), (6, .int x6_18)] → f_L_figures_L337 M x1_2 x2_3 x3_4 n x5_17 x6_18 = some x5_19 → (∀ (H : Heap) (locs : List Loc) (ls : Array Slot), Xw D true cA ad M (AX true ad) s.heap H locs → lv_has ls 8 [(0, .ref (ad 224)), (5, .int x5_19)] → W p l e (headSpec wsL_figures { frames := 4, cells := 0, slots := 0, locals := 90 }).room s m args below meth c H locs 0 0 (MQ below (QiX false D true cA ad r M) args s 0 0 (AX true ad)) (F0 m 419 ls [])) → W p l e (headSpec wsL_figures { frames := 4, cells := 0, slots := 0, locals := 90 }).room s m args below meth c H locs 0 0 (MQ below (QiX false D true cA ad r M) args s 0 0 (AX true ad)) (F0 m 337 ls []) := by
            intro n
            induction n with
            | zero =>
              intro x5_17 x6_18 H locs ls x5_19 hW hl hr hk
              exact absurd hr (by simp [f_L_figures_L337])
            | succ n ih =>
              intro x5_17 x6_18 H locs ls x5_19 hW hl hr hk
              rw [f_L_figures_L337] at hr
              refine lv_iload hx hb dL_figures_337 (lv_at hl 5 rfl) ?_
              refine lv_iconst (v := (5 : Int32)) hx hb dL_figures_339 (by decide) ?_
              refine lv_icmp_ge (tgt := 419) hx hb dL_figures_340 (by decide) (fun c1 => ?_) (fun c1 => ?_)
              · have hr := br_p c1 hr
                have e1 := Option.some.inj hr
                subst e1
                exact hk _ _ _ hW (lv_sub hl [0, 4] rfl)
              · have hr := br_n c1 hr
                refine lv_aload_n hx hb dL_figures_343 rfl (lv_at hl 0 rfl) ?_
                refine lv_iload hx hb dL_figures_344 (lv_at hl 5 rfl) ?_
                obtain ⟨r_20, hc346, hr⟩ := ob1_e hr
                refine xk_i (va_runV (As := [.int x6_18]) (rest := []) ⟨hx, hb, hml, hown, hts⟩ (c_X10_statistic l D cA ad M x6_18 hc346) (cwV 1 hts gL_figures_X10_statistic rfl rfl rfl (by decide +kernel) ⟨Nat.le_of_ble_eq_true rfl, Nat.le_of_ble_eq_true rfl⟩) (xpreV hK hW (k := 224) rfl (by decide) rfl) rfl rfl hl.1 rfl (lv_room (Nat.le_of_ble_eq_true rfl)) dL_figures_346 ⟨Nat.le_of_ble_eq_true rfl, Nat.le_of_ble_eq_true rfl⟩) hW (fun H locs hW => ?_)
                refine lv_istore (lv' := [(7, .int r_20), (0, .ref (ad 224)), (1, .int x1_2), (2, .int x2_3), (3, .int x3_4), (5, .int x5_17), (6, .int x6_18)]) hx hb dL_figures_349 hl (by decide) rfl (fun ls hl => ?_)
                refine lv_iload hx hb dL_figures_351 (lv_at hl 5 rfl) ?_
                obtain ⟨y_21, hr, hr3⟩ := ob1_e hr
                have hj411_21 : ∀ (H : Heap) (locs : List Loc) (ls : Array Slot), Xw D true cA ad M (AX true ad) s.heap H locs → lv_has ls 8 [(0, .ref (ad 224)), (1, .int x1_2), (2, .int x2_3), (3, .int x3_4), (6, .int x6_18)] → W p l e (headSpec wsL_figures { frames := 4, cells := 0, slots := 0, locals := 90 }).room s m args below meth c H locs 0 0 (MQ below (QiX false D true cA ad r M) args s 0 0 (AX true ad)) (F0 m 411 ls [.int y_21]) := by
                  intro H locs ls hW hl
                  have hr := hr3
                  refine lv_istore (lv' := [(5, .int y_21), (0, .ref (ad 224)), (1, .int x1_2), (2, .int x2_3), (3, .int x3_4), (6, .int x6_18)]) hx hb dL_figures_411 hl (by decide) rfl (fun ls hl => ?_)
                  obtain ⟨x6_22, ex6_22, hr⟩ := lt1_e hr
                  refine lv_iinc (v := x6_22) (lv' := [(6, .int x6_22), (5, .int y_21), (0, .ref (ad 224)), (1, .int x1_2), (2, .int x2_3), (3, .int x3_4)]) hx hb dL_figures_413 hl (k := 5) rfl (by rw [ex6_22]; rfl) (by decide) rfl (fun ls hl => ?_)
                  refine lv_goto (tgt := 337) hx hb dL_figures_416 (by decide) ?_
                  exact ih y_21 x6_22 _ _ _ _ hW (lv_sub hl [2, 3, 4, 5, 1, 0] rfl) hr hk
                clear hr3
                refine lv_if_eq (tgt := 410) hx hb dL_figures_353 (by decide) (fun c1 => ?_) (fun c1 => ?_)
                · have hr := br_p c1 hr
                  refine lv_iconst (v := (0 : Int32)) hx hb dL_figures_410 (by decide) ?_
                  have e1 := Option.some.inj hr
                  subst e1
                  exact hj411_21 _ _ _ hW (lv_sub hl [1, 2, 3, 4, 6] rfl)
                · have hr := br_n c1 hr
                  refine lv_iload_n hx hb dL_figures_356 rfl (lv_at hl 2 rfl) ?_
                  refine lv_if_ne (tgt := 370) hx hb dL_figures_357 (by decide) (fun c1 => ?_) (fun c1 => ?_)
                  · have hr := br_n c1 hr
                    refine lv_iload hx hb dL_figures_370 (lv_at hl 0 rfl) ?_
                    refine lv_iload_n hx hb dL_figures_372 rfl (lv_at hl 3 rfl) ?_
                    refine lv_icmp_lt (tgt := 410) hx hb dL_figures_373 (by decide) (fun c1 => ?_) (fun c1 => ?_)
                    · have hr := br_p c1 hr
                      refine lv_iconst (v := (0 : Int32)) hx hb dL_figures_410 (by decide) ?_
                      have e1 := Option.some.inj hr
                      subst e1
                      exact hj411_21 _ _ _ hW (lv_sub hl [1, 2, 3, 4, 6] rfl)
                    · have hr := br_n c1 hr
                      refine lv_iload hx hb dL_figures_376 (lv_at hl 0 rfl) ?_
                      refine lv_iload_n hx hb dL_figures_378 rfl (lv_at hl 4 rfl) ?_
                      refine lv_icmp_gt (tgt := 410) hx hb dL_figures_379 (by decide) (fun c1 => ?_) (fun c1 => ?_)
                      · have hr := br_p c1 hr
                        refine lv_iconst (v := (0 : Int32)) hx hb dL_figures_410 (by decide) ?_
                        have e1 := Option.some.inj hr
                        subst e1
                        exact hj411_21 _ _ _ hW (lv_sub hl [1, 2, 3, 4, 6] rfl)
                      · have hr := br_n c1 hr
                        refine lv_iload hx hb dL_figures_382 (lv_at hl 6 rfl) ?_
                        refine lv_iconst (v := (1 : Int32)) hx hb dL_figures_384 (by decide) ?_
                        have hj394_21 : ∀ (H : Heap) (locs : List Loc) (ls : Array Slot), Xw D true cA ad M (AX true ad) s.heap H locs → lv_has ls 8 [(7, .int r_20), (0, .ref (ad 224)), (1, .int x1_2), (2, .int x2_3), (3, .int x3_4), (6, .int x6_18)] → f_L_figures_J394 x3_4 x6_18 r_20 = some y_21 → W p l e (headSpec wsL_figures { frames := 4, cells := 0, slots := 0, locals := 90 }).room s m args below meth c H locs 0 0 (MQ below (QiX false D true cA ad r M) args s 0 0 (AX true ad)) (F0 m 394 ls []) := by
                          intro H locs ls hW hl hr
                          unfold f_L_figures_J394 at hr
                          refine lv_iload hx hb dL_figures_394 (lv_at hl 5 rfl) ?_
                          refine lv_iconst (v := (2 : Int32)) hx hb dL_figures_396 (by decide) ?_
                          refine lv_icmp_ne (tgt := 406) hx hb dL_figures_397 (by decide) (fun c1 => ?_) (fun c1 => ?_)
                          · have hr := br_n c1 hr
                            refine lv_iconst (v := (1 : Int32)) hx hb dL_figures_406 (by decide) ?_
                            refine lv_goto (tgt := 411) hx hb dL_figures_407 (by decide) ?_
                            have e1 := Option.some.inj hr
                            subst e1
                            exact hj411_21 _ _ _ hW (lv_sub hl [1, 2, 3, 4, 5] rfl)
                          · have hr := br_p c1 hr
                            refine lv_iload hx hb dL_figures_400 (lv_at hl 0 rfl) ?_
                            refine lv_iload_n hx hb dL_figures_402 rfl (lv_at hl 4 rfl) ?_
                            refine lv_icmp_ne (tgt := 410) hx hb dL_figures_403 (by decide) (fun c1 => ?_) (fun c1 => ?_)
                            · have hr := br_n c1 hr
                              refine lv_iconst (v := (0 : Int32)) hx hb dL_figures_410 (by decide) ?_
                              have e1 := Option.some.inj hr
                              subst e1
                              exact hj411_21 _ _ _ hW (lv_sub hl [1, 2, 3, 4, 5] rfl)
                            · have hr := br_p c1 hr
                              refine lv_iconst (v := (1 : Int32)) hx hb dL_figures_406 (by decide) ?_
                              refine lv_goto (tgt := 411) hx hb dL_figures_407 (by decide) ?_
                              have e1 := Option.some.inj hr
                              subst e1
                              exact hj411_21 _ _ _ hW (lv_sub hl [1, 2, 3, 4, 5] rfl)
                        refine lv_icmp_ne (tgt := 394) hx hb dL_figures_385 (by decide) (fun c1 => ?_) (fun c1 => ?_)
                        · have hr := br_n c1 hr
                          exact hj394_21 _ _ _ hW (lv_sub hl [0, 1, 2, 3, 4, 6] rfl) hr
                        · have hr := br_p c1 hr
                          refine lv_iload hx hb dL_figures_388 (lv_at hl 0 rfl) ?_
                          refine lv_iload_n hx hb dL_figures_390 rfl (lv_at hl 3 rfl) ?_
                          refine lv_icmp_ne (tgt := 410) hx hb dL_figures_391 (by decide) (fun c1 => ?_) (fun c1 => ?_)
                          · have hr := br_n c1 hr
                            refine lv_iconst (v := (0 : Int32)) hx hb dL_figures_410 (by decide) ?_
                            have e1 := Option.some.inj hr
                            subst e1
                            exact hj411_21 _ _ _ hW (lv_sub hl [1, 2, 3, 4, 6] rfl)
                          · have hr := br_p c1 hr
                            exact hj394_21 _ _ _ hW (lv_sub hl [0, 1, 2, 3, 4, 6] rfl) hr
                  · have hr := br_p c1 hr
                    refine lv_iload hx hb dL_figures_360 (lv_at hl 0 rfl) ?_
                    refine lv_ldc (v := (-2000000005 : Int32)) hx hb hown (hts _ (wm 1 rfl)) dL_figures_362 ?_
                    refine lv_icmp_ne (tgt := 410) hx hb dL_figures_364 (by decide) (fun c1 => ?_) (fun c1 => ?_)
                    · have hr := br_n c1 hr
                      refine lv_iconst (v := (0 : Int32)) hx hb dL_figures_410 (by decide) ?_
                      have e1 := Option.some.inj hr
                      subst e1
                      exact hj411_21 _ _ _ hW (lv_sub hl [1, 2, 3, 4, 6] rfl)
                    · have hr := br_p c1 hr
                      refine lv_goto (tgt := 406) hx hb dL_figures_367 (by decide) ?_
                      refine lv_iconst (v := (1 : Int32)) hx hb dL_figures_406 (by decide) ?_
                      refine lv_goto (tgt := 411) hx hb dL_figures_407 (by decide) ?_
                      have e1 := Option.some.inj hr
                      subst e1
                      exact hj411_21 _ _ _ hW (lv_sub hl [1, 2, 3, 4, 6] rfl)
          obtain ⟨x5_19, hr, hr3⟩ := ob1_e hr
          refine hL337_18 1000 y_7 (1 : Int32) _ _ _ x5_19 hW (lv_sub hl [2, 3, 4, 5, 1, 0] rfl) hr (fun H locs ls hW hl => ?_)
          clear hr
          have hr := hr3
          refine lv_iconst (v := (0 : Int32)) hx hb dL_figures_419 (by decide) ?_
          refine lv_istore (lv' := [(6, .int (0 : Int32)), (0, .ref (ad 224)), (5, .int x5_19)]) hx hb dL_figures_420 hl (by decide) rfl (fun ls hl => ?_)
          have hL422_24 : ∀ (n : Nat) (x5_23 : Int32) (x6_24 : Int32) (H : Heap) (locs : List Loc) (ls : Array Slot) (x5_25 : Int32), Xw D true cA ad M (AX true ad) s.heap H locs → lv_has ls 8 [(0, .ref (ad 224)), (5, .int x5_23), (6, .int x6_24)] → f_L_figures_L422 M n x5_23 x6_24 = some x5_25 → (∀ (H : Heap) (locs : List Loc) (ls : Array Slot), Xw D true cA ad M (AX true ad) s.heap H locs → lv_has ls 8 [(5, .int x5_25)] → W p l e (headSpec wsL_figures { frames := 4, cells := 0, slots := 0, locals := 90 }).room s m args below meth c H locs 0 0 (MQ below (QiX false D true cA ad r M) args s 0 0 (AX true ad)) (F0 m 491 ls [])) → W p l e (headSpec wsL_figures { frames := 4, cells := 0, slots := 0, locals := 90 }).room s m args below meth c H locs 0 0 (MQ below (QiX false D true cA ad r M) args s 0 0 (AX true ad)) (F0 m 422 ls []) := by
            intro n
            induction n with
            | zero =>
              intro x5_23 x6_24 H locs ls x5_25 hW hl hr hk
              exact absurd hr (by simp [f_L_figures_L422])
            | succ n ih =>
              intro x5_23 x6_24 H locs ls x5_25 hW hl hr hk
              rw [f_L_figures_L422] at hr
              refine lv_iload hx hb dL_figures_422 (lv_at hl 2 rfl) ?_
              refine lv_sipush (v := (9000 : Int32)) hx hb dL_figures_424 (by decide) ?_
              refine lv_icmp_ge (tgt := 491) hx hb dL_figures_427 (by decide) (fun c1 => ?_) (fun c1 => ?_)
              · have hr := br_p c1 hr
                have e1 := Option.some.inj hr
                subst e1
                exact hk _ _ _ hW (lv_sub hl [1] rfl)
              · have hr := br_n c1 hr
                refine lv_iload hx hb dL_figures_430 (lv_at hl 1 rfl) ?_
                obtain ⟨y_26, hr, hr3⟩ := ob1_e hr
                have hj480_26 : ∀ (H : Heap) (locs : List Loc) (ls : Array Slot), Xw D true cA ad M (AX true ad) s.heap H locs → lv_has ls 8 [(0, .ref (ad 224)), (6, .int x6_24)] → W p l e (headSpec wsL_figures { frames := 4, cells := 0, slots := 0, locals := 90 }).room s m args below meth c H locs 0 0 (MQ below (QiX false D true cA ad r M) args s 0 0 (AX true ad)) (F0 m 480 ls [.int y_26]) := by
                  intro H locs ls hW hl
                  have hr := hr3
                  refine lv_istore (lv' := [(5, .int y_26), (0, .ref (ad 224)), (6, .int x6_24)]) hx hb dL_figures_480 hl (by decide) rfl (fun ls hl => ?_)
                  obtain ⟨x6_31, ex6_31, hr⟩ := lt1_e hr
                  refine lv_iincW (v := x6_31) (lv' := [(6, .int x6_31), (5, .int y_26), (0, .ref (ad 224))]) hx hb dL_figures_482 hl (k := 2) rfl (by rw [ex6_31]; rfl) (by decide) rfl (fun ls hl => ?_)
                  refine lv_goto (tgt := 422) hx hb dL_figures_488 (by decide) ?_
                  exact ih y_26 x6_31 _ _ _ _ hW (lv_sub hl [2, 1, 0] rfl) hr hk
                clear hr3
                refine lv_if_eq (tgt := 479) hx hb dL_figures_432 (by decide) (fun c1 => ?_) (fun c1 => ?_)
                · have hr := br_p c1 hr
                  refine lv_iconst (v := (0 : Int32)) hx hb dL_figures_479 (by decide) ?_
                  have e1 := Option.some.inj hr
                  subst e1
                  exact hj480_26 _ _ _ hW (lv_sub hl [0, 2] rfl)
                · have hr := br_n c1 hr
                  refine lv_aload_n hx hb dL_figures_435 rfl (lv_at hl 0 rfl) ?_
                  refine lv_iload hx hb dL_figures_436 (lv_at hl 2 rfl) ?_
                  obtain ⟨r_27, hc438, hr⟩ := ob1_e hr
                  refine xk_i (va_runV (As := [.int x6_24]) (rest := []) ⟨hx, hb, hml, hown, hts⟩ (c_X10_factor l D cA ad M x6_24 hc438) (cwV 1 hts gL_figures_X10_factor rfl rfl rfl (by decide +kernel) ⟨Nat.le_of_ble_eq_true rfl, Nat.le_of_ble_eq_true rfl⟩) (xpreV hK hW (k := 224) rfl (by decide) rfl) rfl rfl hl.1 rfl (lv_room (Nat.le_of_ble_eq_true rfl)) dL_figures_438 ⟨Nat.le_of_ble_eq_true rfl, Nat.le_of_ble_eq_true rfl⟩) hW (fun H locs hW => ?_)
                  refine lv_sipush (v := (500 : Int32)) hx hb dL_figures_441 (by decide) ?_
                  refine lv_icmp_lt (tgt := 479) hx hb dL_figures_444 (by decide) (fun c1 => ?_) (fun c1 => ?_)
                  · have hr := br_p c1 hr
                    refine lv_iconst (v := (0 : Int32)) hx hb dL_figures_479 (by decide) ?_
                    have e1 := Option.some.inj hr
                    subst e1
                    exact hj480_26 _ _ _ hW (lv_sub hl [0, 2] rfl)
                  · have hr := br_n c1 hr
                    refine lv_aload_n hx hb dL_figures_447 rfl (lv_at hl 0 rfl) ?_
                    refine lv_iload hx hb dL_figures_448 (lv_at hl 2 rfl) ?_
                    obtain ⟨r_28, hc450, hr⟩ := ob1_e hr
                    refine xk_i (va_runV (As := [.int x6_24]) (rest := []) ⟨hx, hb, hml, hown, hts⟩ (c_X10_factor l D cA ad M x6_24 hc450) (cwV 1 hts gL_figures_X10_factor rfl rfl rfl (by decide +kernel) ⟨Nat.le_of_ble_eq_true rfl, Nat.le_of_ble_eq_true rfl⟩) (xpreV hK hW (k := 224) rfl (by decide) rfl) rfl rfl hl.1 rfl (lv_room (Nat.le_of_ble_eq_true rfl)) dL_figures_450 ⟨Nat.le_of_ble_eq_true rfl, Nat.le_of_ble_eq_true rfl⟩) hW (fun H locs hW => ?_)
                    refine lv_sipush (v := (1500 : Int32)) hx hb dL_figures_453 (by decide) ?_
                    refine lv_icmp_gt (tgt := 479) hx hb dL_figures_456 (by decide) (fun c1 => ?_) (fun c1 => ?_)
                    · have hr := br_p c1 hr
                      refine lv_iconst (v := (0 : Int32)) hx hb dL_figures_479 (by decide) ?_
                      have e1 := Option.some.inj hr
                      subst e1
                      exact hj480_26 _ _ _ hW (lv_sub hl [0, 2] rfl)
                    · have hr := br_n c1 hr
                      refine lv_aload_n hx hb dL_figures_459 rfl (lv_at hl 0 rfl) ?_
                      refine lv_iload hx hb dL_figures_460 (lv_at hl 2 rfl) ?_
                      refine lv_ineg hx hb dL_figures_462 ?_
                      obtain ⟨r_29, hc463, hr⟩ := ob1_e hr
                      refine xk_i (va_runV (As := [.int (-x6_24)]) (rest := []) ⟨hx, hb, hml, hown, hts⟩ (c_X10_factor l D cA ad M (-x6_24) hc463) (cwV 1 hts gL_figures_X10_factor rfl rfl rfl (by decide +kernel) ⟨Nat.le_of_ble_eq_true rfl, Nat.le_of_ble_eq_true rfl⟩) (xpreV hK hW (k := 224) rfl (by decide) rfl) rfl rfl hl.1 rfl (lv_room (Nat.le_of_ble_eq_true rfl)) dL_figures_463 ⟨Nat.le_of_ble_eq_true rfl, Nat.le_of_ble_eq_true rfl⟩) hW (fun H locs hW => ?_)
                      refine lv_aload_n hx hb dL_figures_466 rfl (lv_at hl 0 rfl) ?_
                      refine lv_iload hx hb dL_figures_467 (lv_at hl 2 rfl) ?_
                      obtain ⟨r_30, hc469, hr⟩ := ob1_e hr
                      refine xk_i (va_runV (As := [.int x6_24]) (rest := [.int r_29]) ⟨hx, hb, hml, hown, hts⟩ (c_X10_factor l D cA ad M x6_24 hc469) (cwV 1 hts gL_figures_X10_factor rfl rfl rfl (by decide +kernel) ⟨Nat.le_of_ble_eq_true rfl, Nat.le_of_ble_eq_true rfl⟩) (xpreV hK hW (k := 224) rfl (by decide) rfl) rfl rfl hl.1 rfl (lv_room (Nat.le_of_ble_eq_true rfl)) dL_figures_469 ⟨Nat.le_of_ble_eq_true rfl, Nat.le_of_ble_eq_true rfl⟩) hW (fun H locs hW => ?_)
                      refine lv_icmp_ne (tgt := 479) hx hb dL_figures_472 (by decide) (fun c1 => ?_) (fun c1 => ?_)
                      · have hr := br_n c1 hr
                        refine lv_iconst (v := (0 : Int32)) hx hb dL_figures_479 (by decide) ?_
                        have e1 := Option.some.inj hr
                        subst e1
                        exact hj480_26 _ _ _ hW (lv_sub hl [0, 2] rfl)
                      · have hr := br_p c1 hr
                        refine lv_iconst (v := (1 : Int32)) hx hb dL_figures_475 (by decide) ?_
                        refine lv_goto (tgt := 480) hx hb dL_figures_476 (by decide) ?_
                        have e1 := Option.some.inj hr
                        subst e1
                        exact hj480_26 _ _ _ hW (lv_sub hl [0, 2] rfl)
          obtain ⟨x5_25, hr, hr3⟩ := ob1_e hr
          refine hL422_24 1000 x5_19 (0 : Int32) _ _ _ x5_25 hW (lv_sub hl [1, 2, 0] rfl) hr (fun H locs ls hW hl => ?_)
          clear hr
          have hr := hr3
          refine lv_iload hx hb dL_figures_491 (lv_at hl 0 rfl) ?_
          obtain ⟨hz493, hr⟩ := chk_e hr
          rw [← Option.some.inj hr]
          exact xzret hx hb hr0 hlocks hW adR_rf hz493 dL_figures_493
        clear hr3
        refine lv_icmp_ne (tgt := 331) hx hb dL_figures_242 (by decide) (fun c1 => ?_) (fun c1 => ?_)
        · have hr := br_n c1 hr
          refine lv_iconst (v := (0 : Int32)) hx hb dL_figures_331 (by decide) ?_
          have e1 := Option.some.inj hr
          subst e1
          exact hj332_7 _ _ _ hW (lv_sub hl [1, 2, 3, 4] rfl)
        · have hr := br_p c1 hr
          refine lv_aload_n hx hb dL_figures_245 rfl (lv_at hl 1 rfl) ?_
          refine lv_iload hx hb dL_figures_246 (lv_at hl 0 rfl) ?_
          refine lv_iconst (v := (0 : Int32)) hx hb dL_figures_248 (by decide) ?_
          obtain ⟨r_8, hc249, hr⟩ := ob1_e hr
          refine xk_i (va_runV (As := [.int r_1, .int (0 : Int32)]) (rest := []) ⟨hx, hb, hml, hown, hts⟩ (c_X10_round l D cA ad M r_1 (0 : Int32) hc249) (cwV 2 hts gL_figures_X10_round rfl rfl rfl (by decide +kernel) ⟨Nat.le_of_ble_eq_true rfl, Nat.le_of_ble_eq_true rfl⟩) (xpreV hK hW (k := 224) rfl (by decide) rfl) rfl rfl hl.1 rfl (lv_room (Nat.le_of_ble_eq_true rfl)) dL_figures_249 ⟨Nat.le_of_ble_eq_true rfl, Nat.le_of_ble_eq_true rfl⟩) hW (fun H locs hW => ?_)
          refine lv_ldc (v := (-2000000001 : Int32)) hx hb hown (hts _ (wm 2 rfl)) dL_figures_252 ?_
          refine lv_icmp_ne (tgt := 331) hx hb dL_figures_254 (by decide) (fun c1 => ?_) (fun c1 => ?_)
          · have hr := br_n c1 hr
            refine lv_iconst (v := (0 : Int32)) hx hb dL_figures_331 (by decide) ?_
            have e1 := Option.some.inj hr
            subst e1
            exact hj332_7 _ _ _ hW (lv_sub hl [1, 2, 3, 4] rfl)
          · have hr := br_p c1 hr
            refine lv_aload_n hx hb dL_figures_257 rfl (lv_at hl 1 rfl) ?_
            refine lv_iconst (v := (0 : Int32)) hx hb dL_figures_258 (by decide) ?_
            obtain ⟨r_9, hc259, hr⟩ := ob1_e hr
            refine xk_l (va_runV (As := [.int (0 : Int32)]) (rest := []) ⟨hx, hb, hml, hown, hts⟩ (c_X10_volume l D cA ad M (0 : Int32) hc259) (cwV 1 hts gL_figures_X10_volume rfl rfl rfl (by decide +kernel) ⟨Nat.le_of_ble_eq_true rfl, Nat.le_of_ble_eq_true rfl⟩) (xpreV hK hW (k := 224) rfl (by decide) rfl) rfl rfl hl.1 rfl (lv_room (Nat.le_of_ble_eq_true rfl)) dL_figures_259 ⟨Nat.le_of_ble_eq_true rfl, Nat.le_of_ble_eq_true rfl⟩) hW (fun H locs hW => ?_)
            refine lv_lconst (v := (0 : Int64)) hx hb dL_figures_262 (by decide) ?_
            refine xlc_lt (tgt := 331) hx hb dL_figures_263 dL_figures_264 (by decide) (fun c1 => ?_) (fun c1 => ?_)
            · have hr := br_p c1 hr
              refine lv_iconst (v := (0 : Int32)) hx hb dL_figures_331 (by decide) ?_
              have e1 := Option.some.inj hr
              subst e1
              exact hj332_7 _ _ _ hW (lv_sub hl [1, 2, 3, 4] rfl)
            · have hr := br_n c1 hr
              refine lv_aload_n hx hb dL_figures_267 rfl (lv_at hl 1 rfl) ?_
              refine lv_iconst (v := (1 : Int32)) hx hb dL_figures_268 (by decide) ?_
              obtain ⟨r_10, hc269, hr⟩ := ob1_e hr
              refine xk_l (va_runV (As := [.int (1 : Int32)]) (rest := []) ⟨hx, hb, hml, hown, hts⟩ (c_X10_volume l D cA ad M (1 : Int32) hc269) (cwV 1 hts gL_figures_X10_volume rfl rfl rfl (by decide +kernel) ⟨Nat.le_of_ble_eq_true rfl, Nat.le_of_ble_eq_true rfl⟩) (xpreV hK hW (k := 224) rfl (by decide) rfl) rfl rfl hl.1 rfl (lv_room (Nat.le_of_ble_eq_true rfl)) dL_figures_269 ⟨Nat.le_of_ble_eq_true rfl, Nat.le_of_ble_eq_true rfl⟩) hW (fun H locs hW => ?_)
              refine lv_lconst (v := (0 : Int64)) hx hb dL_figures_272 (by decide) ?_
              refine xlc_lt (tgt := 331) hx hb dL_figures_273 dL_figures_274 (by decide) (fun c1 => ?_) (fun c1 => ?_)
              · have hr := br_p c1 hr
                refine lv_iconst (v := (0 : Int32)) hx hb dL_figures_331 (by decide) ?_
                have e1 := Option.some.inj hr
                subst e1
                exact hj332_7 _ _ _ hW (lv_sub hl [1, 2, 3, 4] rfl)
              · have hr := br_n c1 hr
                refine lv_aload_n hx hb dL_figures_277 rfl (lv_at hl 1 rfl) ?_
                refine lv_iconst (v := (2 : Int32)) hx hb dL_figures_278 (by decide) ?_
                obtain ⟨r_11, hc279, hr⟩ := ob1_e hr
                refine xk_l (va_runV (As := [.int (2 : Int32)]) (rest := []) ⟨hx, hb, hml, hown, hts⟩ (c_X10_volume l D cA ad M (2 : Int32) hc279) (cwV 1 hts gL_figures_X10_volume rfl rfl rfl (by decide +kernel) ⟨Nat.le_of_ble_eq_true rfl, Nat.le_of_ble_eq_true rfl⟩) (xpreV hK hW (k := 224) rfl (by decide) rfl) rfl rfl hl.1 rfl (lv_room (Nat.le_of_ble_eq_true rfl)) dL_figures_279 ⟨Nat.le_of_ble_eq_true rfl, Nat.le_of_ble_eq_true rfl⟩) hW (fun H locs hW => ?_)
                refine lv_aload_n hx hb dL_figures_282 rfl (lv_at hl 1 rfl) ?_
                refine lv_iconst (v := (0 : Int32)) hx hb dL_figures_283 (by decide) ?_
                obtain ⟨r_12, hc284, hr⟩ := ob1_e hr
                refine xk_l (va_runV (As := [.int (0 : Int32)]) (rest := [.long r_11]) ⟨hx, hb, hml, hown, hts⟩ (c_X10_volume l D cA ad M (0 : Int32) hc284) (cwV 1 hts gL_figures_X10_volume rfl rfl rfl (by decide +kernel) ⟨Nat.le_of_ble_eq_true rfl, Nat.le_of_ble_eq_true rfl⟩) (xpreV hK hW (k := 224) rfl (by decide) rfl) rfl rfl hl.1 rfl (lv_room (Nat.le_of_ble_eq_true rfl)) dL_figures_284 ⟨Nat.le_of_ble_eq_true rfl, Nat.le_of_ble_eq_true rfl⟩) hW (fun H locs hW => ?_)
                refine lv_aload_n hx hb dL_figures_287 rfl (lv_at hl 1 rfl) ?_
                refine lv_iconst (v := (1 : Int32)) hx hb dL_figures_288 (by decide) ?_
                obtain ⟨r_13, hc289, hr⟩ := ob1_e hr
                refine xk_l (va_runV (As := [.int (1 : Int32)]) (rest := [.long r_12, .long r_11]) ⟨hx, hb, hml, hown, hts⟩ (c_X10_volume l D cA ad M (1 : Int32) hc289) (cwV 1 hts gL_figures_X10_volume rfl rfl rfl (by decide +kernel) ⟨Nat.le_of_ble_eq_true rfl, Nat.le_of_ble_eq_true rfl⟩) (xpreV hK hW (k := 224) rfl (by decide) rfl) rfl rfl hl.1 rfl (lv_room (Nat.le_of_ble_eq_true rfl)) dL_figures_289 ⟨Nat.le_of_ble_eq_true rfl, Nat.le_of_ble_eq_true rfl⟩) hW (fun H locs hW => ?_)
                refine lv_lsub hx hb dL_figures_292 ?_
                refine xlc_ne (tgt := 331) hx hb dL_figures_293 dL_figures_294 (by decide) (fun c1 => ?_) (fun c1 => ?_)
                · have hr := br_n c1 hr
                  refine lv_iconst (v := (0 : Int32)) hx hb dL_figures_331 (by decide) ?_
                  have e1 := Option.some.inj hr
                  subst e1
                  exact hj332_7 _ _ _ hW (lv_sub hl [1, 2, 3, 4] rfl)
                · have hr := br_p c1 hr
                  refine lv_iload hx hb dL_figures_297 (lv_at hl 0 rfl) ?_
                  refine lv_bipush (v := (12 : Int32)) hx hb dL_figures_299 (by decide) ?_
                  refine lv_icmp_gt (tgt := 331) hx hb dL_figures_301 (by decide) (fun c1 => ?_) (fun c1 => ?_)
                  · have hr := br_p c1 hr
                    refine lv_iconst (v := (0 : Int32)) hx hb dL_figures_331 (by decide) ?_
                    have e1 := Option.some.inj hr
                    subst e1
                    exact hj332_7 _ _ _ hW (lv_sub hl [1, 2, 3, 4] rfl)
                  · have hr := br_n c1 hr
                    refine lv_iload hx hb dL_figures_304 (lv_at hl 0 rfl) ?_
                    refine lv_aload_n hx hb dL_figures_306 rfl (lv_at hl 1 rfl) ?_
                    refine lv_iconst (v := (3 : Int32)) hx hb dL_figures_307 (by decide) ?_
                    obtain ⟨r_14, hc308, hr⟩ := ob1_e hr
                    refine xk_i (va_runV (As := [.int (3 : Int32)]) (rest := [.int r_1]) ⟨hx, hb, hml, hown, hts⟩ (c_X10_total l D cA ad M (3 : Int32) hc308) (cwV 1 hts gL_figures_X10_total rfl rfl rfl (by decide +kernel) ⟨Nat.le_of_ble_eq_true rfl, Nat.le_of_ble_eq_true rfl⟩) (xpreV hK hW (k := 224) rfl (by decide) rfl) rfl rfl hl.1 rfl (lv_room (Nat.le_of_ble_eq_true rfl)) dL_figures_308 ⟨Nat.le_of_ble_eq_true rfl, Nat.le_of_ble_eq_true rfl⟩) hW (fun H locs hW => ?_)
                    refine lv_icmp_gt (tgt := 331) hx hb dL_figures_311 (by decide) (fun c1 => ?_) (fun c1 => ?_)
                    · have hr := br_p c1 hr
                      refine lv_iconst (v := (0 : Int32)) hx hb dL_figures_331 (by decide) ?_
                      have e1 := Option.some.inj hr
                      subst e1
                      exact hj332_7 _ _ _ hW (lv_sub hl [1, 2, 3, 4] rfl)
                    · have hr := br_n c1 hr
                      refine lv_aload_n hx hb dL_figures_314 rfl (lv_at hl 1 rfl) ?_
                      refine lv_iconst (v := (4 : Int32)) hx hb dL_figures_315 (by decide) ?_
                      obtain ⟨r_15, hc316, hr⟩ := ob1_e hr
                      refine xk_i (va_runV (As := [.int (4 : Int32)]) (rest := []) ⟨hx, hb, hml, hown, hts⟩ (c_X10_total l D cA ad M (4 : Int32) hc316) (cwV 1 hts gL_figures_X10_total rfl rfl rfl (by decide +kernel) ⟨Nat.le_of_ble_eq_true rfl, Nat.le_of_ble_eq_true rfl⟩) (xpreV hK hW (k := 224) rfl (by decide) rfl) rfl rfl hl.1 rfl (lv_room (Nat.le_of_ble_eq_true rfl)) dL_figures_316 ⟨Nat.le_of_ble_eq_true rfl, Nat.le_of_ble_eq_true rfl⟩) hW (fun H locs hW => ?_)
                      refine lv_aload_n hx hb dL_figures_319 rfl (lv_at hl 1 rfl) ?_
                      refine lv_iconst (v := (3 : Int32)) hx hb dL_figures_320 (by decide) ?_
                      obtain ⟨r_16, hc321, hr⟩ := ob1_e hr
                      refine xk_i (va_runV (As := [.int (3 : Int32)]) (rest := [.int r_15]) ⟨hx, hb, hml, hown, hts⟩ (c_X10_total l D cA ad M (3 : Int32) hc321) (cwV 1 hts gL_figures_X10_total rfl rfl rfl (by decide +kernel) ⟨Nat.le_of_ble_eq_true rfl, Nat.le_of_ble_eq_true rfl⟩) (xpreV hK hW (k := 224) rfl (by decide) rfl) rfl rfl hl.1 rfl (lv_room (Nat.le_of_ble_eq_true rfl)) dL_figures_321 ⟨Nat.le_of_ble_eq_true rfl, Nat.le_of_ble_eq_true rfl⟩) hW (fun H locs hW => ?_)
                      refine lv_icmp_gt (tgt := 331) hx hb dL_figures_324 (by decide) (fun c1 => ?_) (fun c1 => ?_)
                      · have hr := br_p c1 hr
                        refine lv_iconst (v := (0 : Int32)) hx hb dL_figures_331 (by decide) ?_
                        have e1 := Option.some.inj hr
                        subst e1
                        exact hj332_7 _ _ _ hW (lv_sub hl [1, 2, 3, 4] rfl)
                      · have hr := br_n c1 hr
                        refine lv_iconst (v := (1 : Int32)) hx hb dL_figures_327 (by decide) ?_
                        refine lv_goto (tgt := 332) hx hb dL_figures_328 (by decide) ?_
                        have e1 := Option.some.inj hr
                        subst e1
                        exact hj332_7 _ _ _ hW (lv_sub hl [1, 2, 3, 4] rfl)
      · have hr := br_n c1 hr
        refine lv_aload_n hx hb dL_figures_23 rfl (lv_at hl 1 rfl) ?_
        refine lv_iload hx hb dL_figures_24 (lv_at hl 5 rfl) ?_
        refine lv_iconst (v := (0 : Int32)) hx hb dL_figures_26 (by decide) ?_
        obtain ⟨r_32, hc27, hr⟩ := ob1_e hr
        refine xk_i (va_runV (As := [.int x5_5, .int (0 : Int32)]) (rest := []) ⟨hx, hb, hml, hown, hts⟩ (c_X10_round l D cA ad M x5_5 (0 : Int32) hc27) (cwV 2 hts gL_figures_X10_round rfl rfl rfl (by decide +kernel) ⟨Nat.le_of_ble_eq_true rfl, Nat.le_of_ble_eq_true rfl⟩) (xpreV hK hW (k := 224) rfl (by decide) rfl) rfl rfl hl.1 rfl (lv_room (Nat.le_of_ble_eq_true rfl)) dL_figures_27 ⟨Nat.le_of_ble_eq_true rfl, Nat.le_of_ble_eq_true rfl⟩) hW (fun H locs hW => ?_)
        refine lv_istore (lv' := [(6, .int r_32), (4, .int r_1), (0, .ref (ad 224)), (1, .int x1_2), (2, .int x2_3), (3, .int x3_4), (5, .int x5_5)]) hx hb dL_figures_30 hl (by decide) rfl (fun ls hl => ?_)
        refine lv_aload_n hx hb dL_figures_32 rfl (lv_at hl 2 rfl) ?_
        refine lv_iload hx hb dL_figures_33 (lv_at hl 6 rfl) ?_
        refine lv_iconst (v := (2 : Int32)) hx hb dL_figures_35 (by decide) ?_
        obtain ⟨r_33, hc36, hr⟩ := ob1_e hr
        refine xk_i (va_runV (As := [.int x5_5, .int (2 : Int32)]) (rest := []) ⟨hx, hb, hml, hown, hts⟩ (c_X10_round l D cA ad M x5_5 (2 : Int32) hc36) (cwV 2 hts gL_figures_X10_round rfl rfl rfl (by decide +kernel) ⟨Nat.le_of_ble_eq_true rfl, Nat.le_of_ble_eq_true rfl⟩) (xpreV hK hW (k := 224) rfl (by decide) rfl) rfl rfl hl.1 rfl (lv_room (Nat.le_of_ble_eq_true rfl)) dL_figures_36 ⟨Nat.le_of_ble_eq_true rfl, Nat.le_of_ble_eq_true rfl⟩) hW (fun H locs hW => ?_)
        refine lv_istore (lv' := [(7, .int r_33), (6, .int r_32), (4, .int r_1), (0, .ref (ad 224)), (1, .int x1_2), (2, .int x2_3), (3, .int x3_4), (5, .int x5_5)]) hx hb dL_figures_39 hl (by decide) rfl (fun ls hl => ?_)
        refine lv_iload hx hb dL_figures_41 (lv_at hl 1 rfl) ?_
        refine lv_ldc (v := (-2000000005 : Int32)) hx hb hown (hts _ (wm 1 rfl)) dL_figures_43 ?_
        obtain ⟨y_34, hr, hr3⟩ := ob1_e hr
        have hj53_34 : ∀ (H : Heap) (locs : List Loc) (ls : Array Slot), Xw D true cA ad M (AX true ad) s.heap H locs → lv_has ls 8 [(7, .int r_33), (6, .int r_32), (4, .int r_1), (0, .ref (ad 224)), (1, .int x1_2), (2, .int x2_3), (3, .int x3_4), (5, .int x5_5)] → W p l e (headSpec wsL_figures { frames := 4, cells := 0, slots := 0, locals := 90 }).room s m args below meth c H locs 0 0 (MQ below (QiX false D true cA ad r M) args s 0 0 (AX true ad)) (F0 m 53 ls [.int y_34]) := by
          intro H locs ls hW hl
          have hr := hr3
          refine lv_iload hx hb dL_figures_53 (lv_at hl 0 rfl) ?_
          obtain ⟨y_35, hr, hr3⟩ := ob1_e hr
          have hj63_35 : ∀ (H : Heap) (locs : List Loc) (ls : Array Slot), Xw D true cA ad M (AX true ad) s.heap H locs → lv_has ls 8 [(7, .int r_33), (6, .int r_32), (4, .int r_1), (0, .ref (ad 224)), (1, .int x1_2), (2, .int x2_3), (3, .int x3_4), (5, .int x5_5)] → W p l e (headSpec wsL_figures { frames := 4, cells := 0, slots := 0, locals := 90 }).room s m args below meth c H locs 0 0 (MQ below (QiX false D true cA ad r M) args s 0 0 (AX true ad)) (F0 m 63 ls [.int y_35, .int y_34]) := by
            intro H locs ls hW hl
            have hr := hr3
            refine lv_icmp_ne (tgt := 165) hx hb dL_figures_63 (by decide) (fun c1 => ?_) (fun c1 => ?_)
            · have hr := br_n c1 hr
              refine lv_iconst (v := (0 : Int32)) hx hb dL_figures_165 (by decide) ?_
              rw [← Option.some.inj hr]
              exact xzret hx hb hr0 hlocks hW adR_rf (by decide) dL_figures_166
            · have hr := br_p c1 hr
              refine lv_iload hx hb dL_figures_66 (lv_at hl 1 rfl) ?_
              refine lv_ldc (v := (-2000000005 : Int32)) hx hb hown (hts _ (wm 1 rfl)) dL_figures_68 ?_
              obtain ⟨y_36, hr, hr3⟩ := ob1_e hr
              have hj78_36 : ∀ (H : Heap) (locs : List Loc) (ls : Array Slot), Xw D true cA ad M (AX true ad) s.heap H locs → lv_has ls 8 [(7, .int r_33), (6, .int r_32), (4, .int r_1), (0, .ref (ad 224)), (1, .int x1_2), (2, .int x2_3), (3, .int x3_4), (5, .int x5_5)] → W p l e (headSpec wsL_figures { frames := 4, cells := 0, slots := 0, locals := 90 }).room s m args below meth c H locs 0 0 (MQ below (QiX false D true cA ad r M) args s 0 0 (AX true ad)) (F0 m 78 ls [.int y_36]) := by
                intro H locs ls hW hl
                have hr := hr3
                refine lv_aload_n hx hb dL_figures_78 rfl (lv_at hl 3 rfl) ?_
                refine lv_iload hx hb dL_figures_79 (lv_at hl 7 rfl) ?_
                refine lv_iconst (v := (1 : Int32)) hx hb dL_figures_81 (by decide) ?_
                obtain ⟨r_37, hc82, hr⟩ := ob1_e hr
                refine xk_i (va_runV (As := [.int x5_5, .int (1 : Int32)]) (rest := [.int y_36]) ⟨hx, hb, hml, hown, hts⟩ (c_X10_round l D cA ad M x5_5 (1 : Int32) hc82) (cwV 2 hts gL_figures_X10_round rfl rfl rfl (by decide +kernel) ⟨Nat.le_of_ble_eq_true rfl, Nat.le_of_ble_eq_true rfl⟩) (xpreV hK hW (k := 224) rfl (by decide) rfl) rfl rfl hl.1 rfl (lv_room (Nat.le_of_ble_eq_true rfl)) dL_figures_82 ⟨Nat.le_of_ble_eq_true rfl, Nat.le_of_ble_eq_true rfl⟩) hW (fun H locs hW => ?_)
                refine lv_ldc (v := (-2000000005 : Int32)) hx hb hown (hts _ (wm 1 rfl)) dL_figures_85 ?_
                obtain ⟨y_38, hr, hr3⟩ := ob1_e hr
                have hj95_38 : ∀ (H : Heap) (locs : List Loc) (ls : Array Slot), Xw D true cA ad M (AX true ad) s.heap H locs → lv_has ls 8 [(7, .int r_33), (6, .int r_32), (4, .int r_1), (0, .ref (ad 224)), (1, .int x1_2), (2, .int x2_3), (3, .int x3_4), (5, .int x5_5)] → W p l e (headSpec wsL_figures { frames := 4, cells := 0, slots := 0, locals := 90 }).room s m args below meth c H locs 0 0 (MQ below (QiX false D true cA ad r M) args s 0 0 (AX true ad)) (F0 m 95 ls [.int y_38, .int y_36]) := by
                  intro H locs ls hW hl
                  have hr := hr3
                  refine lv_icmp_ne (tgt := 165) hx hb dL_figures_95 (by decide) (fun c1 => ?_) (fun c1 => ?_)
                  · have hr := br_n c1 hr
                    refine lv_iconst (v := (0 : Int32)) hx hb dL_figures_165 (by decide) ?_
                    rw [← Option.some.inj hr]
                    exact xzret hx hb hr0 hlocks hW adR_rf (by decide) dL_figures_166
                  · have hr := br_p c1 hr
                    refine lv_aload_n hx hb dL_figures_98 rfl (lv_at hl 3 rfl) ?_
                    refine lv_iload hx hb dL_figures_99 (lv_at hl 7 rfl) ?_
                    refine lv_iconst (v := (3 : Int32)) hx hb dL_figures_101 (by decide) ?_
                    obtain ⟨r_39, hc102, hr⟩ := ob1_e hr
                    refine xk_i (va_runV (As := [.int x5_5, .int (3 : Int32)]) (rest := []) ⟨hx, hb, hml, hown, hts⟩ (c_X10_round l D cA ad M x5_5 (3 : Int32) hc102) (cwV 2 hts gL_figures_X10_round rfl rfl rfl (by decide +kernel) ⟨Nat.le_of_ble_eq_true rfl, Nat.le_of_ble_eq_true rfl⟩) (xpreV hK hW (k := 224) rfl (by decide) rfl) rfl rfl hl.1 rfl (lv_room (Nat.le_of_ble_eq_true rfl)) dL_figures_102 ⟨Nat.le_of_ble_eq_true rfl, Nat.le_of_ble_eq_true rfl⟩) hW (fun H locs hW => ?_)
                    refine lv_iload hx hb dL_figures_105 (lv_at hl 0 rfl) ?_
                    refine lv_iconst (v := (-1 : Int32)) hx hb dL_figures_107 (by decide) ?_
                    refine lv_ixor hx hb dL_figures_108 ?_
                    refine lv_iand hx hb dL_figures_109 ?_
                    refine lv_if_ne (tgt := 165) hx hb dL_figures_110 (by decide) (fun c1 => ?_) (fun c1 => ?_)
                    · have hr := br_n c1 hr
                      refine lv_iconst (v := (0 : Int32)) hx hb dL_figures_165 (by decide) ?_
                      rw [← Option.some.inj hr]
                      exact xzret hx hb hr0 hlocks hW adR_rf (by decide) dL_figures_166
                    · have hr := br_p c1 hr
                      refine lv_aload_n hx hb dL_figures_113 rfl (lv_at hl 3 rfl) ?_
                      refine lv_iload hx hb dL_figures_114 (lv_at hl 7 rfl) ?_
                      refine lv_iconst (v := (4 : Int32)) hx hb dL_figures_116 (by decide) ?_
                      obtain ⟨r_40, hc117, hr⟩ := ob1_e hr
                      refine xk_i (va_runV (As := [.int x5_5, .int (4 : Int32)]) (rest := []) ⟨hx, hb, hml, hown, hts⟩ (c_X10_round l D cA ad M x5_5 (4 : Int32) hc117) (cwV 2 hts gL_figures_X10_round rfl rfl rfl (by decide +kernel) ⟨Nat.le_of_ble_eq_true rfl, Nat.le_of_ble_eq_true rfl⟩) (xpreV hK hW (k := 224) rfl (by decide) rfl) rfl rfl hl.1 rfl (lv_room (Nat.le_of_ble_eq_true rfl)) dL_figures_117 ⟨Nat.le_of_ble_eq_true rfl, Nat.le_of_ble_eq_true rfl⟩) hW (fun H locs hW => ?_)
                      refine lv_iload hx hb dL_figures_120 (lv_at hl 0 rfl) ?_
                      refine lv_iand hx hb dL_figures_122 ?_
                      refine lv_if_ne (tgt := 165) hx hb dL_figures_123 (by decide) (fun c1 => ?_) (fun c1 => ?_)
                      · have hr := br_n c1 hr
                        refine lv_iconst (v := (0 : Int32)) hx hb dL_figures_165 (by decide) ?_
                        rw [← Option.some.inj hr]
                        exact xzret hx hb hr0 hlocks hW adR_rf (by decide) dL_figures_166
                      · have hr := br_p c1 hr
                        refine lv_iload hx hb dL_figures_126 (lv_at hl 1 rfl) ?_
                        refine lv_ldc (v := (-2000000005 : Int32)) hx hb hown (hts _ (wm 1 rfl)) dL_figures_128 ?_
                        have hj143_47 : ∀ (H : Heap) (locs : List Loc) (ls : Array Slot), Xw D true cA ad M (AX true ad) s.heap H locs → lv_has ls 8 [(6, .int r_32), (4, .int r_1), (0, .ref (ad 224)), (1, .int x1_2), (2, .int x2_3), (3, .int x3_4), (5, .int x5_5)] → f_L_figures_J143 M x1_2 x2_3 x3_4 x5_5 r_32 (f_L_figures_L16 M r_1 n) = some r → W p l e (headSpec wsL_figures { frames := 4, cells := 0, slots := 0, locals := 90 }).room s m args below meth c H locs 0 0 (MQ below (QiX false D true cA ad r M) args s 0 0 (AX true ad)) (F0 m 143 ls []) := by
                          intro H locs ls hW hl hr
                          unfold f_L_figures_J143 at hr
                          refine lv_aload_n hx hb dL_figures_143 rfl (lv_at hl 2 rfl) ?_
                          refine lv_iload hx hb dL_figures_144 (lv_at hl 6 rfl) ?_
                          refine lv_iconst (v := (5 : Int32)) hx hb dL_figures_146 (by decide) ?_
                          obtain ⟨r_41, hc147, hr⟩ := ob1_e hr
                          refine xk_i (va_runV (As := [.int x5_5, .int (5 : Int32)]) (rest := []) ⟨hx, hb, hml, hown, hts⟩ (c_X10_round l D cA ad M x5_5 (5 : Int32) hc147) (cwV 2 hts gL_figures_X10_round rfl rfl rfl (by decide +kernel) ⟨Nat.le_of_ble_eq_true rfl, Nat.le_of_ble_eq_true rfl⟩) (xpreV hK hW (k := 224) rfl (by decide) rfl) rfl rfl hl.1 rfl (lv_room (Nat.le_of_ble_eq_true rfl)) dL_figures_147 ⟨Nat.le_of_ble_eq_true rfl, Nat.le_of_ble_eq_true rfl⟩) hW (fun H locs hW => ?_)
                          refine lv_if_lt (tgt := 165) hx hb dL_figures_150 (by decide) (fun c1 => ?_) (fun c1 => ?_)
                          · have hr := br_p c1 hr
                            refine lv_iconst (v := (0 : Int32)) hx hb dL_figures_165 (by decide) ?_
                            rw [← Option.some.inj hr]
                            exact xzret hx hb hr0 hlocks hW adR_rf (by decide) dL_figures_166
                          · have hr := br_n c1 hr
                            refine lv_aload_n hx hb dL_figures_153 rfl (lv_at hl 2 rfl) ?_
                            refine lv_iload hx hb dL_figures_154 (lv_at hl 6 rfl) ?_
                            refine lv_iconst (v := (5 : Int32)) hx hb dL_figures_156 (by decide) ?_
                            obtain ⟨r_42, hc157, hr⟩ := ob1_e hr
                            refine xk_i (va_runV (As := [.int x5_5, .int (5 : Int32)]) (rest := []) ⟨hx, hb, hml, hown, hts⟩ (c_X10_round l D cA ad M x5_5 (5 : Int32) hc157) (cwV 2 hts gL_figures_X10_round rfl rfl rfl (by decide +kernel) ⟨Nat.le_of_ble_eq_true rfl, Nat.le_of_ble_eq_true rfl⟩) (xpreV hK hW (k := 224) rfl (by decide) rfl) rfl rfl hl.1 rfl (lv_room (Nat.le_of_ble_eq_true rfl)) dL_figures_157 ⟨Nat.le_of_ble_eq_true rfl, Nat.le_of_ble_eq_true rfl⟩) hW (fun H locs hW => ?_)
                            refine lv_bipush (v := (8 : Int32)) hx hb dL_figures_160 (by decide) ?_
                            refine lv_icmp_le (tgt := 167) hx hb dL_figures_162 (by decide) (fun c1 => ?_) (fun c1 => ?_)
                            · have hr := br_p c1 hr
                              refine lv_iload hx hb dL_figures_167 (lv_at hl 0 rfl) ?_
                              refine lv_ldc (v := (-2000000005 : Int32)) hx hb hown (hts _ (wm 1 rfl)) dL_figures_169 ?_
                              obtain ⟨y_43, hr, hr3⟩ := ob1_e hr
                              have hj190_43 : ∀ (H : Heap) (locs : List Loc) (ls : Array Slot), Xw D true cA ad M (AX true ad) s.heap H locs → lv_has ls 8 [(6, .int r_32), (4, .int r_1), (0, .ref (ad 224)), (1, .int x1_2), (3, .int x3_4), (5, .int x5_5)] → W p l e (headSpec wsL_figures { frames := 4, cells := 0, slots := 0, locals := 90 }).room s m args below meth c H locs 0 0 (MQ below (QiX false D true cA ad r M) args s 0 0 (AX true ad)) (F0 m 190 ls [.int y_43]) := by
                                intro H locs ls hW hl
                                have hr := hr3
                                refine lv_istore_n (lv' := [(2, .int y_43), (6, .int r_32), (4, .int r_1), (0, .ref (ad 224)), (1, .int x1_2), (3, .int x3_4), (5, .int x5_5)]) hx hb dL_figures_190 rfl hl (by decide) rfl (fun ls hl => ?_)
                                refine lv_iload hx hb dL_figures_191 (lv_at hl 1 rfl) ?_
                                refine lv_ldc (v := (-2000000005 : Int32)) hx hb hown (hts _ (wm 1 rfl)) dL_figures_193 ?_
                                obtain ⟨y_44, hr, hr3⟩ := ob1_e hr
                                have hj214_44 : ∀ (H : Heap) (locs : List Loc) (ls : Array Slot), Xw D true cA ad M (AX true ad) s.heap H locs → lv_has ls 8 [(2, .int y_43), (6, .int r_32), (4, .int r_1), (0, .ref (ad 224)), (1, .int x1_2), (5, .int x5_5)] → W p l e (headSpec wsL_figures { frames := 4, cells := 0, slots := 0, locals := 90 }).room s m args below meth c H locs 0 0 (MQ below (QiX false D true cA ad r M) args s 0 0 (AX true ad)) (F0 m 214 ls [.int y_44]) := by
                                  intro H locs ls hW hl
                                  have hr := hr3
                                  refine lv_istore_n (lv' := [(3, .int y_44), (2, .int y_43), (6, .int r_32), (4, .int r_1), (0, .ref (ad 224)), (1, .int x1_2), (5, .int x5_5)]) hx hb dL_figures_214 rfl hl (by decide) rfl (fun ls hl => ?_)
                                  refine lv_iload_n hx hb dL_figures_215 rfl (lv_at hl 5 rfl) ?_
                                  refine lv_iload hx hb dL_figures_216 (lv_at hl 2 rfl) ?_
                                  refine lv_ldc (v := (-2000000005 : Int32)) hx hb hown (hts _ (wm 1 rfl)) dL_figures_218 ?_
                                  obtain ⟨y_45, hr, hr3⟩ := ob1_e hr
                                  have hj228_45 : ∀ (H : Heap) (locs : List Loc) (ls : Array Slot), Xw D true cA ad M (AX true ad) s.heap H locs → lv_has ls 8 [(3, .int y_44), (2, .int y_43), (4, .int r_1), (0, .ref (ad 224)), (5, .int x5_5)] → W p l e (headSpec wsL_figures { frames := 4, cells := 0, slots := 0, locals := 90 }).room s m args below meth c H locs 0 0 (MQ below (QiX false D true cA ad r M) args s 0 0 (AX true ad)) (F0 m 228 ls [.int y_45, .int x1_2]) := by
                                    intro H locs ls hW hl
                                    have hr := hr3
                                    refine lv_iadd hx hb dL_figures_228 ?_
                                    obtain ⟨x1_46, ex1_46, hr⟩ := lt1_e hr
                                    rw [← ex1_46]
                                    refine lv_istore_n (lv' := [(1, .int x1_46), (3, .int y_44), (2, .int y_43), (4, .int r_1), (0, .ref (ad 224)), (5, .int x5_5)]) hx hb dL_figures_229 rfl hl (by decide) rfl (fun ls hl => ?_)
                                    obtain ⟨x5_47, ex5_47, hr⟩ := lt1_e hr
                                    refine lv_iinc (v := x5_47) (lv' := [(5, .int x5_47), (1, .int x1_46), (3, .int y_44), (2, .int y_43), (4, .int r_1), (0, .ref (ad 224))]) hx hb dL_figures_230 hl (k := 5) rfl (by rw [ex5_47]; rfl) (by decide) rfl (fun ls hl => ?_)
                                    refine lv_goto (tgt := 16) hx hb dL_figures_233 (by decide) ?_
                                    exact ih x1_46 y_43 y_44 x5_47 _ _ _ hW (lv_sub hl [4, 5, 1, 3, 2, 0] rfl) hr
                                  clear hr3
                                  refine lv_icmp_ne (tgt := 227) hx hb dL_figures_220 (by decide) (fun c1 => ?_) (fun c1 => ?_)
                                  · have hr := br_n c1 hr
                                    refine lv_iconst (v := (1 : Int32)) hx hb dL_figures_227 (by decide) ?_
                                    have e1 := Option.some.inj hr
                                    subst e1
                                    exact hj228_45 _ _ _ hW (lv_sub hl [0, 1, 3, 4, 6] rfl)
                                  · have hr := br_p c1 hr
                                    refine lv_iconst (v := (0 : Int32)) hx hb dL_figures_223 (by decide) ?_
                                    refine lv_goto (tgt := 228) hx hb dL_figures_224 (by decide) ?_
                                    have e1 := Option.some.inj hr
                                    subst e1
                                    exact hj228_45 _ _ _ hW (lv_sub hl [0, 1, 3, 4, 6] rfl)
                                clear hr3
                                have hj213_44 : ∀ (H : Heap) (locs : List Loc) (ls : Array Slot), Xw D true cA ad M (AX true ad) s.heap H locs → lv_has ls 8 [(2, .int y_43), (6, .int r_32), (4, .int r_1), (0, .ref (ad 224)), (1, .int x1_2), (3, .int x3_4), (5, .int x5_5)] → f_L_figures_J213 x3_4 = some y_44 → W p l e (headSpec wsL_figures { frames := 4, cells := 0, slots := 0, locals := 90 }).room s m args below meth c H locs 0 0 (MQ below (QiX false D true cA ad r M) args s 0 0 (AX true ad)) (F0 m 213 ls []) := by
                                  intro H locs ls hW hl hr
                                  unfold f_L_figures_J213 at hr
                                  refine lv_iload_n hx hb dL_figures_213 rfl (lv_at hl 5 rfl) ?_
                                  have e1 := Option.some.inj hr
                                  subst e1
                                  exact hj214_44 _ _ _ hW (lv_sub hl [0, 1, 2, 3, 4, 6] rfl)
                                refine lv_icmp_eq (tgt := 213) hx hb dL_figures_195 (by decide) (fun c1 => ?_) (fun c1 => ?_)
                                · have hr := br_p c1 hr
                                  exact hj213_44 _ _ _ hW (lv_sub hl [0, 1, 2, 3, 4, 5, 6] rfl) hr
                                · have hr := br_n c1 hr
                                  refine lv_iload_n hx hb dL_figures_198 rfl (lv_at hl 4 rfl) ?_
                                  have hj208_44 : ∀ (H : Heap) (locs : List Loc) (ls : Array Slot), Xw D true cA ad M (AX true ad) s.heap H locs → lv_has ls 8 [(2, .int y_43), (6, .int r_32), (4, .int r_1), (0, .ref (ad 224)), (1, .int x1_2), (5, .int x5_5)] → f_L_figures_J208 r_32 = some y_44 → W p l e (headSpec wsL_figures { frames := 4, cells := 0, slots := 0, locals := 90 }).room s m args below meth c H locs 0 0 (MQ below (QiX false D true cA ad r M) args s 0 0 (AX true ad)) (F0 m 208 ls []) := by
                                    intro H locs ls hW hl hr
                                    unfold f_L_figures_J208 at hr
                                    refine lv_iload hx hb dL_figures_208 (lv_at hl 1 rfl) ?_
                                    refine lv_goto (tgt := 214) hx hb dL_figures_210 (by decide) ?_
                                    have e1 := Option.some.inj hr
                                    subst e1
                                    exact hj214_44 _ _ _ hW (lv_sub hl [0, 1, 2, 3, 4, 5] rfl)
                                  refine lv_if_eq (tgt := 208) hx hb dL_figures_199 (by decide) (fun c1 => ?_) (fun c1 => ?_)
                                  · have hr := br_p c1 hr
                                    exact hj208_44 _ _ _ hW (lv_sub hl [0, 1, 2, 3, 4, 6] rfl) hr
                                  · have hr := br_n c1 hr
                                    refine lv_iload hx hb dL_figures_202 (lv_at hl 1 rfl) ?_
                                    refine lv_iload_n hx hb dL_figures_204 rfl (lv_at hl 5 rfl) ?_
                                    refine lv_icmp_le (tgt := 213) hx hb dL_figures_205 (by decide) (fun c1 => ?_) (fun c1 => ?_)
                                    · have hr := br_p c1 hr
                                      exact hj213_44 _ _ _ hW (lv_sub hl [0, 1, 2, 3, 4, 5, 6] rfl) hr
                                    · have hr := br_n c1 hr
                                      exact hj208_44 _ _ _ hW (lv_sub hl [0, 1, 2, 3, 4, 6] rfl) hr
                              clear hr3
                              have hj189_43 : ∀ (H : Heap) (locs : List Loc) (ls : Array Slot), Xw D true cA ad M (AX true ad) s.heap H locs → lv_has ls 8 [(6, .int r_32), (4, .int r_1), (0, .ref (ad 224)), (1, .int x1_2), (2, .int x2_3), (3, .int x3_4), (5, .int x5_5)] → f_L_figures_J189 x2_3 = some y_43 → W p l e (headSpec wsL_figures { frames := 4, cells := 0, slots := 0, locals := 90 }).room s m args below meth c H locs 0 0 (MQ below (QiX false D true cA ad r M) args s 0 0 (AX true ad)) (F0 m 189 ls []) := by
                                intro H locs ls hW hl hr
                                unfold f_L_figures_J189 at hr
                                refine lv_iload_n hx hb dL_figures_189 rfl (lv_at hl 4 rfl) ?_
                                have e1 := Option.some.inj hr
                                subst e1
                                exact hj190_43 _ _ _ hW (lv_sub hl [0, 1, 2, 3, 5, 6] rfl)
                              refine lv_icmp_eq (tgt := 189) hx hb dL_figures_171 (by decide) (fun c1 => ?_) (fun c1 => ?_)
                              · have hr := br_p c1 hr
                                exact hj189_43 _ _ _ hW (lv_sub hl [0, 1, 2, 3, 4, 5, 6] rfl) hr
                              · have hr := br_n c1 hr
                                refine lv_iload_n hx hb dL_figures_174 rfl (lv_at hl 3 rfl) ?_
                                have hj184_43 : ∀ (H : Heap) (locs : List Loc) (ls : Array Slot), Xw D true cA ad M (AX true ad) s.heap H locs → lv_has ls 8 [(6, .int r_32), (4, .int r_1), (0, .ref (ad 224)), (1, .int x1_2), (3, .int x3_4), (5, .int x5_5)] → f_L_figures_J184 r_32 = some y_43 → W p l e (headSpec wsL_figures { frames := 4, cells := 0, slots := 0, locals := 90 }).room s m args below meth c H locs 0 0 (MQ below (QiX false D true cA ad r M) args s 0 0 (AX true ad)) (F0 m 184 ls []) := by
                                  intro H locs ls hW hl hr
                                  unfold f_L_figures_J184 at hr
                                  refine lv_iload hx hb dL_figures_184 (lv_at hl 0 rfl) ?_
                                  refine lv_goto (tgt := 190) hx hb dL_figures_186 (by decide) ?_
                                  have e1 := Option.some.inj hr
                                  subst e1
                                  exact hj190_43 _ _ _ hW (lv_sub hl [0, 1, 2, 3, 4, 5] rfl)
                                refine lv_if_eq (tgt := 184) hx hb dL_figures_175 (by decide) (fun c1 => ?_) (fun c1 => ?_)
                                · have hr := br_p c1 hr
                                  exact hj184_43 _ _ _ hW (lv_sub hl [0, 1, 2, 3, 5, 6] rfl) hr
                                · have hr := br_n c1 hr
                                  refine lv_iload hx hb dL_figures_178 (lv_at hl 0 rfl) ?_
                                  refine lv_iload_n hx hb dL_figures_180 rfl (lv_at hl 4 rfl) ?_
                                  refine lv_icmp_ge (tgt := 189) hx hb dL_figures_181 (by decide) (fun c1 => ?_) (fun c1 => ?_)
                                  · have hr := br_p c1 hr
                                    exact hj189_43 _ _ _ hW (lv_sub hl [0, 1, 2, 3, 4, 5, 6] rfl) hr
                                  · have hr := br_n c1 hr
                                    exact hj184_43 _ _ _ hW (lv_sub hl [0, 1, 2, 3, 5, 6] rfl) hr
                            · have hr := br_n c1 hr
                              refine lv_iconst (v := (0 : Int32)) hx hb dL_figures_165 (by decide) ?_
                              rw [← Option.some.inj hr]
                              exact xzret hx hb hr0 hlocks hW adR_rf (by decide) dL_figures_166
                        refine lv_icmp_ne (tgt := 143) hx hb dL_figures_130 (by decide) (fun c1 => ?_) (fun c1 => ?_)
                        · have hr := br_n c1 hr
                          exact hj143_47 _ _ _ hW (lv_sub hl [1, 2, 3, 4, 5, 6, 7] rfl) hr
                        · have hr := br_p c1 hr
                          refine lv_aload_n hx hb dL_figures_133 rfl (lv_at hl 3 rfl) ?_
                          refine lv_iload hx hb dL_figures_134 (lv_at hl 7 rfl) ?_
                          refine lv_iconst (v := (4 : Int32)) hx hb dL_figures_136 (by decide) ?_
                          obtain ⟨r_48, hc137, hr⟩ := ob1_e hr
                          refine xk_i (va_runV (As := [.int x5_5, .int (4 : Int32)]) (rest := []) ⟨hx, hb, hml, hown, hts⟩ (c_X10_round l D cA ad M x5_5 (4 : Int32) hc137) (cwV 2 hts gL_figures_X10_round rfl rfl rfl (by decide +kernel) ⟨Nat.le_of_ble_eq_true rfl, Nat.le_of_ble_eq_true rfl⟩) (xpreV hK hW (k := 224) rfl (by decide) rfl) rfl rfl hl.1 rfl (lv_room (Nat.le_of_ble_eq_true rfl)) dL_figures_137 ⟨Nat.le_of_ble_eq_true rfl, Nat.le_of_ble_eq_true rfl⟩) hW (fun H locs hW => ?_)
                          refine lv_if_ne (tgt := 165) hx hb dL_figures_140 (by decide) (fun c1 => ?_) (fun c1 => ?_)
                          · have hr := br_n c1 hr
                            refine lv_iconst (v := (0 : Int32)) hx hb dL_figures_165 (by decide) ?_
                            rw [← Option.some.inj hr]
                            exact xzret hx hb hr0 hlocks hW adR_rf (by decide) dL_figures_166
                          · have hr := br_p c1 hr
                            exact hj143_47 _ _ _ hW (lv_sub hl [1, 2, 3, 4, 5, 6, 7] rfl) hr
                clear hr3
                refine lv_icmp_ne (tgt := 94) hx hb dL_figures_87 (by decide) (fun c1 => ?_) (fun c1 => ?_)
                · have hr := br_n c1 hr
                  refine lv_iconst (v := (0 : Int32)) hx hb dL_figures_94 (by decide) ?_
                  have e1 := Option.some.inj hr
                  subst e1
                  exact hj95_38 _ _ _ hW (lv_sub hl [0, 1, 2, 3, 4, 5, 6, 7] rfl)
                · have hr := br_p c1 hr
                  refine lv_iconst (v := (1 : Int32)) hx hb dL_figures_90 (by decide) ?_
                  refine lv_goto (tgt := 95) hx hb dL_figures_91 (by decide) ?_
                  have e1 := Option.some.inj hr
                  subst e1
                  exact hj95_38 _ _ _ hW (lv_sub hl [0, 1, 2, 3, 4, 5, 6, 7] rfl)
              clear hr3
              refine lv_icmp_ne (tgt := 77) hx hb dL_figures_70 (by decide) (fun c1 => ?_) (fun c1 => ?_)
              · have hr := br_n c1 hr
                refine lv_iconst (v := (0 : Int32)) hx hb dL_figures_77 (by decide) ?_
                have e1 := Option.some.inj hr
                subst e1
                exact hj78_36 _ _ _ hW (lv_sub hl [0, 1, 2, 3, 4, 5, 6, 7] rfl)
              · have hr := br_p c1 hr
                refine lv_iconst (v := (1 : Int32)) hx hb dL_figures_73 (by decide) ?_
                refine lv_goto (tgt := 78) hx hb dL_figures_74 (by decide) ?_
                have e1 := Option.some.inj hr
                subst e1
                exact hj78_36 _ _ _ hW (lv_sub hl [0, 1, 2, 3, 4, 5, 6, 7] rfl)
          clear hr3
          refine lv_if_ne (tgt := 62) hx hb dL_figures_55 (by decide) (fun c1 => ?_) (fun c1 => ?_)
          · have hr := br_n c1 hr
            refine lv_iconst (v := (0 : Int32)) hx hb dL_figures_62 (by decide) ?_
            have e1 := Option.some.inj hr
            subst e1
            exact hj63_35 _ _ _ hW (lv_sub hl [0, 1, 2, 3, 4, 5, 6, 7] rfl)
          · have hr := br_p c1 hr
            refine lv_iconst (v := (1 : Int32)) hx hb dL_figures_58 (by decide) ?_
            refine lv_goto (tgt := 63) hx hb dL_figures_59 (by decide) ?_
            have e1 := Option.some.inj hr
            subst e1
            exact hj63_35 _ _ _ hW (lv_sub hl [0, 1, 2, 3, 4, 5, 6, 7] rfl)
        clear hr3
        refine lv_icmp_ne (tgt := 52) hx hb dL_figures_45 (by decide) (fun c1 => ?_) (fun c1 => ?_)
        · have hr := br_n c1 hr
          refine lv_iconst (v := (0 : Int32)) hx hb dL_figures_52 (by decide) ?_
          have e1 := Option.some.inj hr
          subst e1
          exact hj53_34 _ _ _ hW (lv_sub hl [0, 1, 2, 3, 4, 5, 6, 7] rfl)
        · have hr := br_p c1 hr
          refine lv_iconst (v := (1 : Int32)) hx hb dL_figures_48 (by decide) ?_
          refine lv_goto (tgt := 53) hx hb dL_figures_49 (by decide) ?_
          have e1 := Option.some.inj hr
          subst e1
          exact hj53_34 _ _ _ hW (lv_sub hl [0, 1, 2, 3, 4, 5, 6, 7] rfl)
  exact hL16_5 1000 (0 : Int32) (0 : Int32) (0 : Int32) (0 : Int32) _ _ _ hW (lv_sub hl [1, 5, 4, 3, 2, 0] rfl) hr

set_option maxHeartbeats 4000000 in
set_option maxRecDepth 100000 in
theorem c_X10_skipsNeeded (l : Launch) (D : va_G) (cA : Nat → ClassId) (ad : Nat → Nat) (M : Mm) {r : Int32} {M' : Mm} (hr : f_X10_skipsNeeded M = some (r, M')) : Met l yX10_skipsNeeded wsX10_skipsNeeded ({ frames := 4, cells := 0, slots := 0, locals := 101 }) (PcX D true cA ad M [.ref (ad 224)]) (QiX false D true cA ad r M') 0 0 (AX true ad) := by
  refine Met.ofW (cc := cX10_skipsNeeded) (maxL := 2) (ret := (some .int)) (by decide) rfl ?_
  intro p e s m args below meth c s₁ B hml hv
  obtain ⟨hav, hP0, hK⟩ := hv
  have hx := B.exec
  have hb := B.bytes
  have hr0 := B.returns
  have hts := atoms_spec (ws := wsX10_skipsNeeded) B.pre
  have hown : s.vm.findClass RX10 = some m.cls := findClass_of_methodNamed B.named
  have hlocks := B.notSynchronized
  have hW := xstart hP0
  have hi10 : ∀ w ∈ wsX100, w ∈ wsX10_skipsNeeded := fun w h => List.mem_cons_of_mem _ (List.mem_append_left _ (List.mem_append_left _ (List.mem_append_left _ (List.mem_append_left _ (List.mem_append_left _ (List.mem_append_right _ h))))))
  have hl := lv_entry ([.ref (ad 224)]) (n := 2) (Nat.le_of_ble_eq_true rfl)
  have hef := lg_entry_eq m ([.ref (ad 224)]) 2
  rw [← hav] at hef
  rw [hef]
  clear hef
  generalize (lg_sl ([.ref (ad 224)]) ++ List.replicate (2 - (lg_sl ([.ref (ad 224)])).length) Slot.unset).toArray = ls at hl ⊢
  have hl : lv_has ls 2 [(0, .ref (ad 224))] := hl
  clear hP0
  unfold f_X10_skipsNeeded at hr
  refine lv_iconst (v := (0 : Int32)) hx hb dX10_skipsNeeded_0 (by decide) ?_
  refine lv_istore_n (lv' := [(1, .int (0 : Int32)), (0, .ref (ad 224))]) hx hb dX10_skipsNeeded_1 rfl hl (by decide) rfl (fun ls hl => ?_)
  have hL2_1 : ∀ (n : Nat) (x1_1 : Int32) (M_2 : Mm) (H : Heap) (locs : List Loc) (ls : Array Slot), Xw D true cA ad M_2 (AX true ad) s.heap H locs → lv_has ls 2 [(0, .ref (ad 224)), (1, .int x1_1)] → f_X10_skipsNeeded_L2 n x1_1 M_2 = some (r, M') → W p l e (headSpec wsX10_skipsNeeded { frames := 4, cells := 0, slots := 0, locals := 101 }).room s m args below meth c H locs 0 0 (MQ below (QiX false D true cA ad r M') args s 0 0 (AX true ad)) (F0 m 2 ls []) := by
    intro n
    induction n with
    | zero =>
      intro x1_1 M_2 H locs ls hW hl hr
      exact absurd hr (by simp [f_X10_skipsNeeded_L2])
    | succ n ih =>
      intro x1_1 M_2 H locs ls hW hl hr
      rw [f_X10_skipsNeeded_L2] at hr
      refine lv_iload_n hx hb dX10_skipsNeeded_2 rfl (lv_at hl 1 rfl) ?_
      refine lv_iconst (v := (5 : Int32)) hx hb dX10_skipsNeeded_3 (by decide) ?_
      refine lv_icmp_gt (tgt := 37) hx hb dX10_skipsNeeded_4 (by decide) (fun c1 => ?_) (fun c1 => ?_)
      · have hr := br_p c1 hr
        refine lv_ldc (v := (-2000000005 : Int32)) hx hb hown (hts _ (wm 3 rfl)) dX10_skipsNeeded_37 ?_
        obtain ⟨e1, e2⟩ := Prod.mk.inj (Option.some.inj hr)
        rw [← e1, ← e2]
        exact xiret hx hb hr0 hlocks hW adR_rf dX10_skipsNeeded_39
      · have hr := br_n c1 hr
        refine lv_aload_n hx hb dX10_skipsNeeded_7 rfl (lv_at hl 0 rfl) ?_
        refine g10_6 hx hb hts hi10 hown hK hW (k := 224) rfl (hts _ (wm 1 rfl)) dX10_skipsNeeded_8 ?_
        refine lv_aload_n hx hb dX10_skipsNeeded_11 rfl (lv_at hl 0 rfl) ?_
        refine g10_0 hx hb hts hi10 hown hK hW (k := 224) rfl (hts _ (wm 2 rfl)) dX10_skipsNeeded_12 ?_
        refine lv_iload_n hx hb dX10_skipsNeeded_15 rfl (lv_at hl 1 rfl) ?_
        obtain ⟨M_3, hc16, hr⟩ := ob1_e hr
        refine xk_v (va_runV (As := [.ref (ad 0), .int x1_1]) (rest := []) ⟨hx, hb, hml, hown, hts⟩ (c_X2_judge l D cA ad M_2 x1_1 hc16) (cwV 2 hts gX10_skipsNeeded_X2_judge rfl rfl rfl (by decide +kernel) ⟨Nat.le_of_ble_eq_true rfl, Nat.le_of_ble_eq_true rfl⟩) (xpreV hK hW (k := 232) rfl (by decide) rfl) rfl rfl hl.1 rfl (lv_room (Nat.le_of_ble_eq_true rfl)) dX10_skipsNeeded_16 ⟨Nat.le_of_ble_eq_true rfl, Nat.le_of_ble_eq_true rfl⟩) hW (fun H locs hW => ?_)
        refine lv_aload_n hx hb dX10_skipsNeeded_19 rfl (lv_at hl 0 rfl) ?_
        refine g10_6 hx hb hts hi10 hown hK hW (k := 224) rfl (hts _ (wm 1 rfl)) dX10_skipsNeeded_20 ?_
        obtain ⟨r_4, hc23, hr⟩ := ob1_e hr
        refine xk_i (va_runV (As := []) (rest := []) ⟨hx, hb, hml, hown, hts⟩ (c_X2_hasOutlier l D cA ad M_3 hc23) (cwV 0 hts gX10_skipsNeeded_X2_hasOutlier rfl rfl rfl (by decide +kernel) ⟨Nat.le_of_ble_eq_true rfl, Nat.le_of_ble_eq_true rfl⟩) (xpreV hK hW (k := 232) rfl (by decide) rfl) rfl rfl hl.1 rfl (lv_room (Nat.le_of_ble_eq_true rfl)) dX10_skipsNeeded_23 ⟨Nat.le_of_ble_eq_true rfl, Nat.le_of_ble_eq_true rfl⟩) hW (fun H locs hW => ?_)
        refine lv_if_ne (tgt := 31) hx hb dX10_skipsNeeded_26 (by decide) (fun c1 => ?_) (fun c1 => ?_)
        · have hr := br_n c1 hr
          obtain ⟨x1_5, ex1_5, hr⟩ := lt1_e hr
          refine lv_iinc (v := x1_5) (lv' := [(1, .int x1_5), (0, .ref (ad 224))]) hx hb dX10_skipsNeeded_31 hl (k := 1) rfl (by rw [ex1_5]; rfl) (by decide) rfl (fun ls hl => ?_)
          refine lv_goto (tgt := 2) hx hb dX10_skipsNeeded_34 (by decide) ?_
          exact ih x1_5 M_3 _ _ _ hW (lv_sub hl [1, 0] rfl) hr
        · have hr := br_p c1 hr
          refine lv_iload_n hx hb dX10_skipsNeeded_29 rfl (lv_at hl 1 rfl) ?_
          obtain ⟨e1, e2⟩ := Prod.mk.inj (Option.some.inj hr)
          rw [← e1, ← e2]
          exact xiret hx hb hr0 hlocks hW adR_rf dX10_skipsNeeded_30
  exact hL2_1 1000 (0 : Int32) M _ _ _ hW (lv_sub hl [1, 0] rfl) hr

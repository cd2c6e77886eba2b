/-! THE LAW: its two loops, by gen_walk_law.py -/
set_option maxHeartbeats 4000000 in
set_option maxRecDepth 100000 in
theorem law_B {p : Program} {l : Launch} {e : Env} {s : State} {m : MethodId} {below : List Frame} {meth : Method} {c : Code} {b L : Nat} {xs : Nat → Int32} {D : va_G} {cA : Nat → ClassId} {tL tH : Nat} (C0 : lw_At p s m meth c b L xs) (hL : L ≤ 260) (hK : KX D cA s) (hSt : StX tL tH (lx_A s) s s.heap) {P : Nat} (hP : 0 < P) :
    ∀ (k n : Nat) (ad : Nat → Nat) (M : Mm) (H : Heap) (locs : List Loc) (ls : Array Slot), n + k = 44 → Inv n M → NP M P → Xw D true cA ad M (lx_A s) s.heap H locs → lv_has ls 7 [(4, .int (nI n)), (2, .int (1 : Int32)), (1, .ref (ad 224)), (0, .ref b)] → W p l e room_1 s m #[Value.ref b] below meth c H locs (1000 + 2 * n) (10000 + 12 * n) (lw_Z below #[Value.ref b] s) (F0 m 206 ls []) := by
  obtain ⟨hx, hb, hr0, hml, hown, hts0, hXs, hbl, hlocks, hgv⟩ := id C0
  have hts : ∀ w ∈ wsL_law, w.before #[Value.ref b] s = true := fun w h => hts0 w (wsL_law_in w h)
  have hown : s.vm.findClass RL = some m.cls := hown
  have hA : ∀ q : Nat, s.heap.size ≤ q → lx_A s q := fun q h => h
  have hbA : ¬ lx_A s b := Nat.not_le.mpr hbl
  intro k
  induction k with
  | zero =>
    intro n ad M H locs ls h1 hI hn hW hl
    obtain rfl : n = 44 := by omega
    refine lv_iload hx hb dL_law_206 (lv_at hl 0 rfl) ?_
    refine lv_bipush (v := (44 : Int32)) hx hb dL_law_208 (by decide) ?_
    refine lv_icmp_ge (tgt := 275) hx hb dL_law_210 (by decide) (fun _ => ?_) (fun c1 => absurd (show (44 : Int32) ≤ nI 44 by decide) c1)
    refine lv_iload_n hx hb dL_law_275 rfl (lv_at hl 1 rfl) ?_
    refine va_forget (fun q hq => hW.2.2.2.2 q hq) ?_
    refine W.widen (k := 645894) (n := 7164566) (Nat.le_of_ble_eq_true rfl) (Nat.le_of_ble_eq_true rfl) ?_
    exact lw_ret hx hb hr0 hlocks dL_law_276
  | succ k ih =>
    intro n ad M H locs ls h1 hI hn hW hl
    refine lv_iload hx hb dL_law_206 (lv_at hl 0 rfl) ?_
    refine lv_bipush (v := (44 : Int32)) hx hb dL_law_208 (by decide) ?_
    refine lv_icmp_ge (tgt := 275) hx hb dL_law_210 (by decide) (fun c1 => absurd c1 (nI_ge (b := 44) (by omega) (by decide))) (fun _ => ?_)
    refine lv_iload_n hx hb dL_law_213 rfl (lv_at hl 1 rfl) ?_
    refine lv_if_eq (tgt := 275) hx hb dL_law_214 (by decide) (fun c1 => absurd c1 one_0) (fun _ => ?_)
    refine lv_aload_n hx hb dL_law_217 rfl (lv_at hl 2 rfl) ?_
    refine lv_aload_n hx hb dL_law_218 rfl (lv_at hl 3 rfl) ?_
    refine lv_iconst (v := (2 : Int32)) hx hb dL_law_219 (by decide) ?_
    refine lv_iload hx hb dL_law_220 (lv_at hl 0 rfl) ?_
    refine lv_imul hx hb dL_law_222 ?_
    rw [show (2 : Int32) * nI n = nI (2 * n) from nI_mul 2 n]
    refine lot_i (va_runS (As := [.ref b, .int (nI (2 * n))]) (rest := [.ref (ad 224)]) ⟨hx, hb, hml, hown, hts⟩ (c_L_lot l b L xs (2 * n) (by omega) (by omega)) (va_cwS 2 hts gL_law_L_lot rfl rfl rfl (by decide +kernel) ⟨(Nat.le_of_ble_eq_true rfl), (Nat.le_of_ble_eq_true rfl)⟩) (lotpre hXs hbl hbA hW.2.2) rfl rfl hl.1 rfl (lv_room (Nat.le_of_ble_eq_true rfl)) dL_law_223 ⟨show 1000 + 2 * n + 0 ≤ 645894 by omega, show 10000 + 12 * n + 0 ≤ 7164566 by omega⟩) hW (fun H locs hW => ?_)
    refine lv_aload_n hx hb dL_law_226 rfl (lv_at hl 3 rfl) ?_
    refine lv_iconst (v := (2 : Int32)) hx hb dL_law_227 (by decide) ?_
    refine lv_iload hx hb dL_law_228 (lv_at hl 0 rfl) ?_
    refine lv_imul hx hb dL_law_230 ?_
    refine lv_iconst (v := (1 : Int32)) hx hb dL_law_231 (by decide) ?_
    refine lv_iadd hx hb dL_law_232 ?_
    rw [show (2 : Int32) * nI n = nI (2 * n) from nI_mul 2 n, nI_1]
    refine lot_i (va_runS (As := [.ref b, .int (nI (2 * n + 1))]) (rest := [.int (lotv xs L (2 * n)), .ref (ad 224)]) ⟨hx, hb, hml, hown, hts⟩ (c_L_lot l b L xs (2 * n + 1) (by omega) (by omega)) (va_cwS 2 hts gL_law_L_lot rfl rfl rfl (by decide +kernel) ⟨(Nat.le_of_ble_eq_true rfl), (Nat.le_of_ble_eq_true rfl)⟩) (lotpre hXs hbl hbA hW.2.2) rfl rfl hl.1 rfl (lv_room (Nat.le_of_ble_eq_true rfl)) dL_law_233 ⟨show 1000 + 2 * n + 0 ≤ 645894 by omega, show 10000 + 12 * n + 0 ≤ 7164566 by omega⟩) hW (fun H locs hW => ?_)
    obtain ⟨M1, a1, hI1, hn1⟩ := m_acts (x := lotv xs L (2 * n)) (y := lotv xs L (2 * n + 1)) hI hn hP (by omega)
    obtain ⟨M2, a2, hI2, hJ2⟩ := m_paths hI1
    have hn2 : NP M2 P := hn1.se hJ2.pg
    have a3 := m_figures hI2 (by omega)
    refine xz_i (va_runS (As := [.ref (ad 224), .int (lotv xs L (2 * n)), .int (lotv xs L (2 * n + 1))]) (rest := []) ⟨hx, hb, hml, hown, hts⟩ (c_L_acts l D cA ad M H.size (lotv xs L (2 * n)) (lotv xs L (2 * n + 1)) tL tH a1) (va_cwS 3 hts gL_law_L_acts rfl rfl rfl (by decide +kernel) ⟨(Nat.le_of_ble_eq_true rfl), (Nat.le_of_ble_eq_true rfl)⟩) (zpreY hK hW hA rfl hSt) rfl rfl hl.1 rfl (lv_room (Nat.le_of_ble_eq_true rfl)) dL_law_236 ⟨show 1000 + 2 * n + 2 ≤ 645894 by omega, show 10000 + 12 * n + 12 ≤ 7164566 by omega⟩) hW hA (fun ad2 H locs had hW => ?_)
    rw [← had.1 224 rfl] at hl
    refine lv_if_eq (tgt := 267) hx hb dL_law_239 (by decide) (fun c1 => absurd c1 one_0) (fun _ => ?_)
    refine lv_aload_n hx hb dL_law_242 rfl (lv_at hl 2 rfl) ?_
    refine xk_i (va_runS (As := [.ref (ad2 224)]) (rest := []) ⟨hx, hb, hml, hown, hts⟩ (c_L_paths l D cA ad2 M1 a2) (va_cwS 1 hts gL_law_L_paths rfl rfl rfl (by decide +kernel) ⟨(Nat.le_of_ble_eq_true rfl), (Nat.le_of_ble_eq_true rfl)⟩) (xpreS hK hW) rfl rfl hl.1 rfl (lv_room (Nat.le_of_ble_eq_true rfl)) dL_law_243 ⟨show 1000 + 2 * n + 2 + 0 ≤ 645894 by omega, show 10000 + 12 * n + 12 + 0 ≤ 7164566 by omega⟩) hW (fun H locs hW => ?_)
    refine lv_if_eq (tgt := 267) hx hb dL_law_246 (by decide) (fun c1 => absurd c1 one_0) (fun _ => ?_)
    have fin : ∀ (H : Heap) (locs : List Loc), Xw D true cA ad2 M2 (lx_A s) s.heap H locs → W p l e room_1 s m #[Value.ref b] below meth c H locs (1000 + 2 * n + 2) (10000 + 12 * n + 12) (lw_Z below #[Value.ref b] s) (F0 m 263 ls []) := by
      intro H locs hW
      refine lv_iconst (v := (1 : Int32)) hx hb dL_law_263 (by decide) ?_
      refine lv_goto (tgt := 268) hx hb dL_law_264 (by decide) ?_
      refine lv_istore_n (lv' := [(2, .int (1 : Int32)), (4, .int (nI n)), (1, .ref (ad2 224)), (0, .ref b)]) hx hb dL_law_268 rfl hl (by decide) rfl (fun ls hl => ?_)
      refine lv_iinc (v := nI (n + 1)) (lv' := [(4, .int (nI (n + 1))), (2, .int (1 : Int32)), (1, .ref (ad2 224)), (0, .ref b)]) hx hb dL_law_269 hl (k := 1) rfl (by rw [show Int32.ofInt 1 = nI 1 by decide, nI_add]) (by decide) rfl (fun ls hl => ?_)
      refine lv_goto (tgt := 206) hx hb dL_law_272 (by decide) ?_
      refine W.widen (k := 1000 + 2 * (n + 1)) (n := 10000 + 12 * (n + 1)) (by omega) (by omega) ?_
      exact ih (n + 1) ad2 M2 H locs ls (by omega) hI2 hn2 hW hl
    refine lv_iload hx hb dL_law_249 (lv_at hl 0 rfl) ?_
    refine lv_iconst (v := (2 : Int32)) hx hb dL_law_251 (by decide) ?_
    refine lv_irem hx hb dL_law_252 (by decide) ?_
    refine lv_if_eq (tgt := 263) hx hb dL_law_253 (by decide) (fun _ => fin H _ hW) (fun _ => ?_)
    refine lv_aload_n hx hb dL_law_256 rfl (lv_at hl 2 rfl) ?_
    refine xk_i (va_runS (As := [.ref (ad2 224)]) (rest := []) ⟨hx, hb, hml, hown, hts⟩ (c_L_figures l D cA ad2 M2 a3) (va_cwS 1 hts gL_law_L_figures rfl rfl rfl (by decide +kernel) ⟨(Nat.le_of_ble_eq_true rfl), (Nat.le_of_ble_eq_true rfl)⟩) (xpreS hK hW) rfl rfl hl.1 rfl (lv_room (Nat.le_of_ble_eq_true rfl)) dL_law_257 ⟨show 1000 + 2 * n + 2 + 0 ≤ 645894 by omega, show 10000 + 12 * n + 12 + 0 ≤ 7164566 by omega⟩) hW (fun H locs hW => ?_)
    refine lv_if_eq (tgt := 267) hx hb dL_law_260 (by decide) (fun c1 => absurd c1 one_0) (fun _ => ?_)
    exact fin H _ hW
set_option maxHeartbeats 4000000 in
set_option maxRecDepth 100000 in
theorem law_A {p : Program} {l : Launch} {e : Env} {s : State} {m : MethodId} {below : List Frame} {meth : Method} {c : Code} {b L : Nat} {xs : Nat → Int32} {D : va_G} {cA : Nat → ClassId} {tL tH : Nat} (C0 : lw_At p s m meth c b L xs) (hL : L ≤ 260) (hK : KX D cA s) (hSt : StX tL tH (lx_A s) s s.heap) {P : Nat} (hP : 0 < P) (hP4 : P ≤ 4) :
    ∀ (k i : Nat) (ad : Nat → Nat) (M : Mm) (H : Heap) (locs : List Loc) (ls : Array Slot), i + k = P → Inv 0 M → NP M i → Xw D true cA ad M (lx_A s) s.heap H locs → lv_has ls 7 [(4, .int (nI i)), (3, .int (nI P)), (2, .int (1 : Int32)), (1, .ref (ad 224)), (0, .ref b)] → W p l e room_1 s m #[Value.ref b] below meth c H locs 1000 10000 (lw_Z below #[Value.ref b] s) (F0 m 69 ls []) := by
  obtain ⟨hx, hb, hr0, hml, hown, hts0, hXs, hbl, hlocks, hgv⟩ := id C0
  have hts : ∀ w ∈ wsL_law, w.before #[Value.ref b] s = true := fun w h => hts0 w (wsL_law_in w h)
  have hown : s.vm.findClass RL = some m.cls := hown
  have hA : ∀ q : Nat, s.heap.size ≤ q → lx_A s q := fun q h => h
  have hbA : ¬ lx_A s b := Nat.not_le.mpr hbl
  intro k
  induction k with
  | zero =>
    intro i ad M H locs ls h1 hI hn hW hl
    obtain rfl : i = P := by omega
    refine lv_iload hx hb dL_law_69 (lv_at hl 0 rfl) ?_
    refine lv_iload_n hx hb dL_law_71 rfl (lv_at hl 1 rfl) ?_
    refine lv_icmp_ge (tgt := 203) hx hb dL_law_72 (by decide) (fun _ => ?_) (fun c1 => absurd (Int32.le_refl _) c1)
    refine lv_iconst (v := nI 3) hx hb dL_law_203 (by decide) ?_
    refine lv_istore (lv' := [(4, .int (nI 3)), (3, .int (nI i)), (2, .int (1 : Int32)), (1, .ref (ad 224)), (0, .ref b)]) hx hb dL_law_204 hl (by decide) rfl (fun ls hl => ?_)
    refine W.widen (k := 1000 + 2 * 3) (n := 10000 + 12 * 3) (Nat.le_of_ble_eq_true rfl) (Nat.le_of_ble_eq_true rfl) ?_
    exact law_B C0 hL hK hSt hP 41 3 ad M H _ ls rfl (hI.mono (by omega)) hn hW (lv_sub hl [0, 2, 3, 4] rfl)
  | succ k ih =>
    intro i ad M H locs ls h1 hI hn hW hl
    refine lv_iload hx hb dL_law_69 (lv_at hl 0 rfl) ?_
    refine lv_iload_n hx hb dL_law_71 rfl (lv_at hl 1 rfl) ?_
    refine lv_icmp_ge (tgt := 203) hx hb dL_law_72 (by decide) (fun c1 => absurd c1 (nI_ge (by omega) (by omega))) (fun _ => ?_)
    refine lv_iload_n hx hb dL_law_75 rfl (lv_at hl 2 rfl) ?_
    refine lv_if_eq (tgt := 203) hx hb dL_law_76 (by decide) (fun c1 => absurd c1 one_0) (fun _ => ?_)
    refine lv_aload_n hx hb dL_law_79 rfl (lv_at hl 4 rfl) ?_
    refine lv_iconst (v := (1 : Int32)) hx hb dL_law_80 (by decide) ?_
    refine lv_iload hx hb dL_law_81 (lv_at hl 0 rfl) ?_
    refine lv_iadd hx hb dL_law_83 ?_
    rw [show (1 : Int32) + nI i = nI (1 + i) from nI_add 1 i]
    refine lot_i (va_runS (As := [.ref b, .int (nI (1 + i))]) (rest := []) ⟨hx, hb, hml, hown, hts⟩ (c_L_lot l b L xs (1 + i) (by omega) (by omega)) (va_cwS 2 hts gL_law_L_lot rfl rfl rfl (by decide +kernel) ⟨(Nat.le_of_ble_eq_true rfl), (Nat.le_of_ble_eq_true rfl)⟩) (lotpre hXs hbl hbA hW.2.2) rfl rfl hl.1 rfl (lv_room (Nat.le_of_ble_eq_true rfl)) dL_law_84 ⟨(Nat.le_of_ble_eq_true rfl), (Nat.le_of_ble_eq_true rfl)⟩) hW (fun H locs hW => ?_)
    generalize lotv xs L (1 + i) = x
    refine lv_istore (lv' := [(5, .int x), (4, .int (nI i)), (3, .int (nI P)), (2, .int (1 : Int32)), (1, .ref (ad 224)), (0, .ref b)]) hx hb dL_law_87 hl (by decide) rfl (fun ls hl => ?_)
    obtain ⟨va, a1, a2, a3⟩ := low_v (v := x) (n := 500) (X := M) (by decide)
    have z500 : (500 : Int32).toInt = 500 := rfl
    have z60 : (60 : Int32).toInt = 60 := rfl
    have elen : (60 + va).toInt = 60 + va.toInt := fb_addI (by omega) (by omega)
    refine lv_bipush (v := (60 : Int32)) hx hb dL_law_89 (by decide) ?_
    refine lv_iload hx hb dL_law_91 (lv_at hl 0 rfl) ?_
    refine lv_sipush (v := (500 : Int32)) hx hb dL_law_93 (by decide) ?_
    refine xk_i (va_runS (As := [.int (x), .int ((500 : Int32))]) (rest := [.int (60 : Int32)]) ⟨hx, hb, hml, hown, hts⟩ (c_L_low l D cA ad M (x) ((500 : Int32)) a1) (va_cwS 2 hts gL_law_L_low rfl rfl rfl (by decide +kernel) ⟨(Nat.le_of_ble_eq_true rfl), (Nat.le_of_ble_eq_true rfl)⟩) (xpreS hK hW) rfl rfl hl.1 rfl (lv_room (Nat.le_of_ble_eq_true rfl)) dL_law_96 ⟨(Nat.le_of_ble_eq_true rfl), (Nat.le_of_ble_eq_true rfl)⟩) hW (fun H locs hW => ?_)
    refine lv_iadd hx hb dL_law_99 ?_
    have l1 : 60 ≤ (60 + va).toInt := by omega
    have l2 : (60 + va).toInt < 560 := by omega
    clear elen
    generalize (60 + va : Int32) = len at l1 l2 ⊢
    refine lv_istore (lv' := [(6, .int len), (5, .int x), (4, .int (nI i)), (3, .int (nI P)), (2, .int (1 : Int32)), (1, .ref (ad 224)), (0, .ref b)]) hx hb dL_law_100 hl (by decide) rfl (fun ls hl => ?_)
    have z2 : (2 : Int32).toInt = 2 := rfl
    have z3 : (3 : Int32).toInt = 3 := rfl
    have d2 : (len / 2).toInt = len.toInt / 2 := by rw [Int32.toInt_div_of_ne_right _ _ (by decide), Int.tdiv_eq_ediv_of_nonneg (by omega), z2]
    have d3 : (len / 3).toInt = len.toInt / 3 := by rw [Int32.toInt_div_of_ne_right _ _ (by decide), Int.tdiv_eq_ediv_of_nonneg (by omega), z3]
    obtain ⟨vb, b1, b2, b3⟩ := low_v (v := x >>> ((3 : Int32) &&& 31)) (n := len / 3) (X := M) (by omega)
    obtain ⟨vc, c1, c2, c3⟩ := low_v (v := x >>> ((5 : Int32) &&& 31)) (n := 6) (X := M) (by decide)
    obtain ⟨vd, d1, d4, d5⟩ := low_v (v := x >>> ((8 : Int32) &&& 31)) (n := 900) (X := M) (by decide)
    obtain ⟨ve, e1, e2, e3⟩ := low_v (v := x >>> ((9 : Int32) &&& 31)) (n := 3000) (X := M) (by decide)
    have z6 : (6 : Int32).toInt = 6 := rfl
    have z900 : (900 : Int32).toInt = 900 := rfl
    have z3000 : (3000 : Int32).toInt = 3000 := rfl
    have z0 : (0 : Int32).toInt = 0 := rfl
    have z1 : (1 : Int32).toInt = 1 := rfl
    have z10 : (10 : Int32).toInt = 10 := rfl
    have z50 : (50 : Int32).toInt = 50 := rfl
    have z100 : (100 : Int32).toInt = 100 := rfl
    have z1000 : (1000 : Int32).toInt = 1000 := rfl
    have z2000 : (2000 : Int32).toInt = 2000 := rfl
    have z5000 : (5000 : Int32).toInt = 5000 := rfl
    have z10000 : (10000 : Int32).toInt = 10000 := rfl
    have s2 : (len / 2 + vb).toInt = (len / 2).toInt + vb.toInt := fb_addI (by omega) (by omega)
    have s3 : (1 + vc).toInt = 1 + vc.toInt := fb_addI (by omega) (by omega)
    have s4 : (100 + vd).toInt = 100 + vd.toInt := fb_addI (by omega) (by omega)
    obtain ⟨M1, ea, hI1, hn1, k10, k11⟩ := x_addPath (x1 := len) (x2 := len / 2 + vb) (x3 := 1 + vc) (x4 := 100 + vd) (x5 := ve) hI hn (by omega) (by rw [i_le]; omega) (by rw [i_le]; omega) (by rw [i_le]; omega) (by rw [i_le]; omega) (by rw [i_le]; omega) (by rw [i_le]; omega) (by rw [i_le]; omega) (by rw [i_le]; omega) (by rw [i_le]; omega) (by rw [i_le]; omega)
    have p8 : f_X10_path (nI i) 8 M1 = some (-2000000005) := (lk_p8 hn1 (Nat.lt_succ_self i)).trans (congrArg some k10)
    have p9 : f_X10_path (nI i) 9 M1 = some (-2000000005) := (lk_p9 hn1 (Nat.lt_succ_self i)).trans (congrArg some k11)
    refine lv_aload_n hx hb dL_law_102 rfl (lv_at hl 5 rfl) ?_
    refine lv_iload hx hb dL_law_103 (lv_at hl 0 rfl) ?_
    refine lv_iload hx hb dL_law_105 (lv_at hl 0 rfl) ?_
    refine lv_iconst (v := (2 : Int32)) hx hb dL_law_107 (by decide) ?_
    refine lv_idiv hx hb dL_law_108 (by decide) ?_
    refine lv_iload hx hb dL_law_109 (lv_at hl 1 rfl) ?_
    refine lv_iconst (v := (3 : Int32)) hx hb dL_law_111 (by decide) ?_
    refine lv_ishr hx hb dL_law_112 ?_
    refine lv_iload hx hb dL_law_113 (lv_at hl 0 rfl) ?_
    refine lv_iconst (v := (3 : Int32)) hx hb dL_law_115 (by decide) ?_
    refine lv_idiv hx hb dL_law_116 (by decide) ?_
    refine xk_i (va_runS (As := [.int (x >>> ((3 : Int32) &&& 31)), .int (len / 3)]) (rest := [.int (len / 2), .int len, .ref (ad 224)]) ⟨hx, hb, hml, hown, hts⟩ (c_L_low l D cA ad M (x >>> ((3 : Int32) &&& 31)) (len / 3) b1) (va_cwS 2 hts gL_law_L_low rfl rfl rfl (by decide +kernel) ⟨(Nat.le_of_ble_eq_true rfl), (Nat.le_of_ble_eq_true rfl)⟩) (xpreS hK hW) rfl rfl hl.1 rfl (lv_room (Nat.le_of_ble_eq_true rfl)) dL_law_117 ⟨(Nat.le_of_ble_eq_true rfl), (Nat.le_of_ble_eq_true rfl)⟩) hW (fun H locs hW => ?_)
    refine lv_iadd hx hb dL_law_120 ?_
    refine lv_iconst (v := (1 : Int32)) hx hb dL_law_121 (by decide) ?_
    refine lv_iload hx hb dL_law_122 (lv_at hl 1 rfl) ?_
    refine lv_iconst (v := (5 : Int32)) hx hb dL_law_124 (by decide) ?_
    refine lv_ishr hx hb dL_law_125 ?_
    refine lv_bipush (v := (6 : Int32)) hx hb dL_law_126 (by decide) ?_
    refine xk_i (va_runS (As := [.int (x >>> ((5 : Int32) &&& 31)), .int ((6 : Int32))]) (rest := [.int (1 : Int32), .int (len / 2 + vb), .int len, .ref (ad 224)]) ⟨hx, hb, hml, hown, hts⟩ (c_L_low l D cA ad M (x >>> ((5 : Int32) &&& 31)) ((6 : Int32)) c1) (va_cwS 2 hts gL_law_L_low rfl rfl rfl (by decide +kernel) ⟨(Nat.le_of_ble_eq_true rfl), (Nat.le_of_ble_eq_true rfl)⟩) (xpreS hK hW) rfl rfl hl.1 rfl (lv_room (Nat.le_of_ble_eq_true rfl)) dL_law_128 ⟨(Nat.le_of_ble_eq_true rfl), (Nat.le_of_ble_eq_true rfl)⟩) hW (fun H locs hW => ?_)
    refine lv_iadd hx hb dL_law_131 ?_
    refine lv_bipush (v := (100 : Int32)) hx hb dL_law_132 (by decide) ?_
    refine lv_iload hx hb dL_law_134 (lv_at hl 1 rfl) ?_
    refine lv_bipush (v := (8 : Int32)) hx hb dL_law_136 (by decide) ?_
    refine lv_ishr hx hb dL_law_138 ?_
    refine lv_sipush (v := (900 : Int32)) hx hb dL_law_139 (by decide) ?_
    refine xk_i (va_runS (As := [.int (x >>> ((8 : Int32) &&& 31)), .int ((900 : Int32))]) (rest := [.int (100 : Int32), .int (1 + vc), .int (len / 2 + vb), .int len, .ref (ad 224)]) ⟨hx, hb, hml, hown, hts⟩ (c_L_low l D cA ad M (x >>> ((8 : Int32) &&& 31)) ((900 : Int32)) d1) (va_cwS 2 hts gL_law_L_low rfl rfl rfl (by decide +kernel) ⟨(Nat.le_of_ble_eq_true rfl), (Nat.le_of_ble_eq_true rfl)⟩) (xpreS hK hW) rfl rfl hl.1 rfl (lv_room (Nat.le_of_ble_eq_true rfl)) dL_law_142 ⟨(Nat.le_of_ble_eq_true rfl), (Nat.le_of_ble_eq_true rfl)⟩) hW (fun H locs hW => ?_)
    refine lv_iadd hx hb dL_law_145 ?_
    refine lv_iload hx hb dL_law_146 (lv_at hl 1 rfl) ?_
    refine lv_bipush (v := (9 : Int32)) hx hb dL_law_148 (by decide) ?_
    refine lv_ishr hx hb dL_law_150 ?_
    refine lv_sipush (v := (3000 : Int32)) hx hb dL_law_151 (by decide) ?_
    refine xk_i (va_runS (As := [.int (x >>> ((9 : Int32) &&& 31)), .int ((3000 : Int32))]) (rest := [.int (100 + vd), .int (1 + vc), .int (len / 2 + vb), .int len, .ref (ad 224)]) ⟨hx, hb, hml, hown, hts⟩ (c_L_low l D cA ad M (x >>> ((9 : Int32) &&& 31)) ((3000 : Int32)) e1) (va_cwS 2 hts gL_law_L_low rfl rfl rfl (by decide +kernel) ⟨(Nat.le_of_ble_eq_true rfl), (Nat.le_of_ble_eq_true rfl)⟩) (xpreS hK hW) rfl rfl hl.1 rfl (lv_room (Nat.le_of_ble_eq_true rfl)) dL_law_154 ⟨(Nat.le_of_ble_eq_true rfl), (Nat.le_of_ble_eq_true rfl)⟩) hW (fun H locs hW => ?_)
    refine xc_i (va_runV (As := [.int len, .int (len / 2 + vb), .int (1 + vc), .int (100 + vd), .int ve]) (rest := []) ⟨hx, hb, hml, hown, hts⟩ (c_X10_addPath l D cA ad M len (len / 2 + vb) (1 + vc) (100 + vd) ve ea) (cwV 5 hts gL_law_X10_addPath rfl rfl rfl (by decide +kernel) ⟨(Nat.le_of_ble_eq_true rfl), (Nat.le_of_ble_eq_true rfl)⟩) (xpreV hK hW (k := 224) rfl (by decide) rfl) rfl rfl hl.1 rfl (lv_room (Nat.le_of_ble_eq_true rfl)) dL_law_157 ⟨(Nat.le_of_ble_eq_true rfl), (Nat.le_of_ble_eq_true rfl)⟩) hW (fun ad2 H locs had hW => ?_)
    rw [← had.1 224 rfl] at hl
    refine lv_iload hx hb dL_law_160 (lv_at hl 2 rfl) ?_
    refine lv_icmp_ne (tgt := 195) hx hb dL_law_162 (by decide) (fun c1 => absurd rfl c1) (fun _ => ?_)
    refine lv_aload_n hx hb dL_law_165 rfl (lv_at hl 5 rfl) ?_
    refine lv_iload hx hb dL_law_166 (lv_at hl 2 rfl) ?_
    refine lv_bipush (v := (8 : Int32)) hx hb dL_law_168 (by decide) ?_
    refine xk_i (va_runV (As := [.int (nI i), .int (8 : Int32)]) (rest := []) ⟨hx, hb, hml, hown, hts⟩ (c_X10_path l D cA ad2 M1 (nI i) (8 : Int32) p8) (cwV 2 hts gL_law_X10_path rfl rfl rfl (by decide +kernel) ⟨(Nat.le_of_ble_eq_true rfl), (Nat.le_of_ble_eq_true rfl)⟩) (xpreV hK hW (k := 224) rfl (by decide) rfl) rfl rfl hl.1 rfl (lv_room (Nat.le_of_ble_eq_true rfl)) dL_law_170 ⟨(Nat.le_of_ble_eq_true rfl), (Nat.le_of_ble_eq_true rfl)⟩) hW (fun H locs hW => ?_)
    refine lv_ldc (v := (-2000000005 : Int32)) hx hb hown (hts _ lawm_4) dL_law_173 ?_
    refine lv_icmp_ne (tgt := 195) hx hb dL_law_175 (by decide) (fun c1 => absurd rfl c1) (fun _ => ?_)
    refine lv_aload_n hx hb dL_law_178 rfl (lv_at hl 5 rfl) ?_
    refine lv_iload hx hb dL_law_179 (lv_at hl 2 rfl) ?_
    refine lv_bipush (v := (9 : Int32)) hx hb dL_law_181 (by decide) ?_
    refine xk_i (va_runV (As := [.int (nI i), .int (9 : Int32)]) (rest := []) ⟨hx, hb, hml, hown, hts⟩ (c_X10_path l D cA ad2 M1 (nI i) (9 : Int32) p9) (cwV 2 hts gL_law_X10_path rfl rfl rfl (by decide +kernel) ⟨(Nat.le_of_ble_eq_true rfl), (Nat.le_of_ble_eq_true rfl)⟩) (xpreV hK hW (k := 224) rfl (by decide) rfl) rfl rfl hl.1 rfl (lv_room (Nat.le_of_ble_eq_true rfl)) dL_law_183 ⟨(Nat.le_of_ble_eq_true rfl), (Nat.le_of_ble_eq_true rfl)⟩) hW (fun H locs hW => ?_)
    refine lv_ldc (v := (-2000000005 : Int32)) hx hb hown (hts _ lawm_4) dL_law_186 ?_
    refine lv_icmp_ne (tgt := 195) hx hb dL_law_188 (by decide) (fun c1 => absurd rfl c1) (fun _ => ?_)
    refine lv_iconst (v := (1 : Int32)) hx hb dL_law_191 (by decide) ?_
    refine lv_goto (tgt := 196) hx hb dL_law_192 (by decide) ?_
    refine lv_istore_n (lv' := [(2, .int (1 : Int32)), (6, .int len), (5, .int x), (4, .int (nI i)), (3, .int (nI P)), (1, .ref (ad2 224)), (0, .ref b)]) hx hb dL_law_196 rfl hl (by decide) rfl (fun ls hl => ?_)
    refine lv_iinc (v := nI (i + 1)) (lv' := [(4, .int (nI (i + 1))), (2, .int (1 : Int32)), (6, .int len), (5, .int x), (3, .int (nI P)), (1, .ref (ad2 224)), (0, .ref b)]) hx hb dL_law_197 hl (k := 3) rfl (by rw [show Int32.ofInt 1 = nI 1 by decide, nI_add]) (by decide) rfl (fun ls hl => ?_)
    refine lv_goto (tgt := 69) hx hb dL_law_200 (by decide) ?_
    exact ih (i + 1) ad2 M1 H _ ls (by omega) hI1 hn1 hW (lv_sub hl [0, 4, 1, 5, 6] rfl)

/-! THE LAW, 5: cases -/
set_option maxHeartbeats 4000000 in
set_option maxRecDepth 100000 in
/-- clearText -/
theorem law_10 {p : Program} {l : Launch} {e : Env} {s : State} {m : MethodId} {below : List Frame} {meth : Method} {c : Code} {b L : Nat} {xs : Nat → Int32} {D : va_G} {cA : Nat → ClassId} {ad ad2 : Nat → Nat} {M N : Mm} {H : Heap} {locs : List Loc} {ls : Array Slot} {j : Nat} (C0 : lw_At p s m meth c b L xs) (hL : L ≤ 3072) (hK : KX D cA s) (hj : j + 6 ≤ L) (hR : Rel M N) (hX : lx_W D cA ad ad2 M N (lx_A s) s.heap H locs) (hl : lv_has ls 4 [(3, .int (nI j)), (2, .ref (ad2 0)), (1, .ref (ad 224)), (0, .ref b)]) (kk : lx_K p l e s m below meth c D cA b j) : W p l e room_1 s m #[Value.ref b] below meth c H locs 600000 7302250 (lw_Z below #[Value.ref b] s) (F0 m 478 ls []) := by
  obtain ⟨hx, hb, hr0, hml, hown, hts0, hXs, hbl, hlocks, hgv⟩ := C0
  have hts : ∀ w ∈ wsL_law, w.before #[Value.ref b] s = true := fun w h => hts0 w (wsL_law_in w h)
  obtain ⟨r, M2, N2, r1, r2, hR2⟩ := s_clearText  hR
  refine lv_aload_n hx hb dL_law_478 rfl (lv_at hl 2 rfl) ?_
  refine lx_xi (va_runV (As := []) (rest := []) ⟨hx, hb, hml, hown, hts⟩ (c_X10_clearText l D cA ad M r1) (cwV 0 hts gL_law_X10_clearText rfl rfl rfl (by decide +kernel) ⟨(Nat.le_of_ble_eq_true rfl), (Nat.le_of_ble_eq_true rfl)⟩) (xpreV hK hX.1 (k := 224) rfl (by decide) rfl) rfl rfl hl.1 rfl (lv_room (Nat.le_of_ble_eq_true rfl)) dL_law_479 ⟨(Nat.le_of_ble_eq_true rfl), (Nat.le_of_ble_eq_true rfl)⟩) hX (fun ad1 H locs had hX => ?_)
  rw [show ad1 = ad from had] at hX
  refine lv_aload_n hx hb dL_law_482 rfl (lv_at hl 1 rfl) ?_
  refine lx_yi (va_runV (As := []) (rest := [.int r]) ⟨hx, hb, hml, hown, hts⟩ (c_X11_clearText l D cA ad2 N r2) (cwV 0 hts gL_law_X11_clearText rfl rfl rfl (by decide +kernel) ⟨(Nat.le_of_ble_eq_true rfl), (Nat.le_of_ble_eq_true rfl)⟩) (xpreV hK hX.2.1 (k := 0) rfl (by decide) rfl) rfl rfl hl.1 rfl (lv_room (Nat.le_of_ble_eq_true rfl)) dL_law_483 ⟨(Nat.le_of_ble_eq_true rfl), (Nat.le_of_ble_eq_true rfl)⟩) hX (fun H locs hX => ?_)
  refine lv_icmp_eq (tgt := 976) hx hb dL_law_486 (by decide) (fun _ => ?_) (fun c1 => absurd rfl c1)
  exact kk ad ad2 M2 N2 H locs ls hR2 hX hl
set_option maxHeartbeats 4000000 in
set_option maxRecDepth 100000 in
/-- faultPosition -/
theorem law_11 {p : Program} {l : Launch} {e : Env} {s : State} {m : MethodId} {below : List Frame} {meth : Method} {c : Code} {b L : Nat} {xs : Nat → Int32} {D : va_G} {cA : Nat → ClassId} {ad ad2 : Nat → Nat} {M N : Mm} {H : Heap} {locs : List Loc} {ls : Array Slot} {j : Nat} (C0 : lw_At p s m meth c b L xs) (hL : L ≤ 3072) (hK : KX D cA s) (hj : j + 6 ≤ L) (hR : Rel M N) (hX : lx_W D cA ad ad2 M N (lx_A s) s.heap H locs) (hl : lv_has ls 4 [(3, .int (nI j)), (2, .ref (ad2 0)), (1, .ref (ad 224)), (0, .ref b)]) (kk : lx_K p l e s m below meth c D cA b j) : W p l e room_1 s m #[Value.ref b] below meth c H locs 600000 7302250 (lw_Z below #[Value.ref b] s) (F0 m 491 ls []) := by
  obtain ⟨hx, hb, hr0, hml, hown, hts0, hXs, hbl, hlocks, hgv⟩ := C0
  have hts : ∀ w ∈ wsL_law, w.before #[Value.ref b] s = true := fun w h => hts0 w (wsL_law_in w h)
  obtain ⟨r, M2, N2, r1, r2, hR2⟩ := s_faultPosition  hR
  refine lv_aload_n hx hb dL_law_491 rfl (lv_at hl 2 rfl) ?_
  refine lx_xi (va_runV (As := []) (rest := []) ⟨hx, hb, hml, hown, hts⟩ (c_X10_faultPosition l D cA ad M r1) (cwV 0 hts gL_law_X10_faultPosition rfl rfl rfl (by decide +kernel) ⟨(Nat.le_of_ble_eq_true rfl), (Nat.le_of_ble_eq_true rfl)⟩) (xpreV hK hX.1 (k := 224) rfl (by decide) rfl) rfl rfl hl.1 rfl (lv_room (Nat.le_of_ble_eq_true rfl)) dL_law_492 ⟨(Nat.le_of_ble_eq_true rfl), (Nat.le_of_ble_eq_true rfl)⟩) hX (fun ad1 H locs had hX => ?_)
  rw [show ad1 = ad from had] at hX
  refine lv_aload_n hx hb dL_law_495 rfl (lv_at hl 1 rfl) ?_
  refine lx_yi (va_runV (As := []) (rest := [.int r]) ⟨hx, hb, hml, hown, hts⟩ (c_X11_faultPosition l D cA ad2 N r2) (cwV 0 hts gL_law_X11_faultPosition rfl rfl rfl (by decide +kernel) ⟨(Nat.le_of_ble_eq_true rfl), (Nat.le_of_ble_eq_true rfl)⟩) (xpreV hK hX.2.1 (k := 0) rfl (by decide) rfl) rfl rfl hl.1 rfl (lv_room (Nat.le_of_ble_eq_true rfl)) dL_law_496 ⟨(Nat.le_of_ble_eq_true rfl), (Nat.le_of_ble_eq_true rfl)⟩) hX (fun H locs hX => ?_)
  refine lv_icmp_eq (tgt := 976) hx hb dL_law_499 (by decide) (fun _ => ?_) (fun c1 => absurd rfl c1)
  exact kk ad ad2 M2 N2 H locs ls hR2 hX hl
set_option maxHeartbeats 4000000 in
set_option maxRecDepth 100000 in
/-- run -/
theorem law_12 {p : Program} {l : Launch} {e : Env} {s : State} {m : MethodId} {below : List Frame} {meth : Method} {c : Code} {b L : Nat} {xs : Nat → Int32} {D : va_G} {cA : Nat → ClassId} {ad ad2 : Nat → Nat} {M N : Mm} {H : Heap} {locs : List Loc} {ls : Array Slot} {j : Nat} (C0 : lw_At p s m meth c b L xs) (hL : L ≤ 3072) (hK : KX D cA s) (hj : j + 6 ≤ L) (hR : Rel M N) (hX : lx_W D cA ad ad2 M N (lx_A s) s.heap H locs) (hl : lv_has ls 4 [(3, .int (nI j)), (2, .ref (ad2 0)), (1, .ref (ad 224)), (0, .ref b)]) (kk : lx_K p l e s m below meth c D cA b j) : W p l e room_1 s m #[Value.ref b] below meth c H locs 600000 7302250 (lw_Z below #[Value.ref b] s) (F0 m 504 ls []) := by
  obtain ⟨hx, hb, hr0, hml, hown, hts0, hXs, hbl, hlocks, hgv⟩ := C0
  have hts : ∀ w ∈ wsL_law, w.before #[Value.ref b] s = true := fun w h => hts0 w (wsL_law_in w h)
  obtain ⟨r, M2, N2, r1, r2, hR2⟩ := s_run  hR
  refine lv_aload_n hx hb dL_law_504 rfl (lv_at hl 2 rfl) ?_
  refine lx_xi (va_runV (As := []) (rest := []) ⟨hx, hb, hml, hown, hts⟩ (c_X10_run l D cA ad M r1) (cwV 0 hts gL_law_X10_run rfl rfl rfl (by decide +kernel) ⟨(Nat.le_of_ble_eq_true rfl), (Nat.le_of_ble_eq_true rfl)⟩) (xpreV hK hX.1 (k := 224) rfl (by decide) rfl) rfl rfl hl.1 rfl (lv_room (Nat.le_of_ble_eq_true rfl)) dL_law_505 ⟨(Nat.le_of_ble_eq_true rfl), (Nat.le_of_ble_eq_true rfl)⟩) hX (fun ad1 H locs had hX => ?_)
  rw [← had.1 224 rfl] at hl
  refine lv_aload_n hx hb dL_law_508 rfl (lv_at hl 1 rfl) ?_
  refine lx_yi (va_runV (As := []) (rest := [.int r]) ⟨hx, hb, hml, hown, hts⟩ (c_X11_run l D cA ad2 N r2) (cwV 0 hts gL_law_X11_run rfl rfl rfl (by decide +kernel) ⟨(Nat.le_of_ble_eq_true rfl), (Nat.le_of_ble_eq_true rfl)⟩) (xpreV hK hX.2.1 (k := 0) rfl (by decide) rfl) rfl rfl hl.1 rfl (lv_room (Nat.le_of_ble_eq_true rfl)) dL_law_509 ⟨(Nat.le_of_ble_eq_true rfl), (Nat.le_of_ble_eq_true rfl)⟩) hX (fun H locs hX => ?_)
  refine lv_icmp_eq (tgt := 976) hx hb dL_law_512 (by decide) (fun _ => ?_) (fun c1 => absurd rfl c1)
  exact kk ad1 ad2 M2 N2 H locs ls hR2 hX hl
set_option maxHeartbeats 4000000 in
set_option maxRecDepth 100000 in
/-- undo -/
theorem law_13 {p : Program} {l : Launch} {e : Env} {s : State} {m : MethodId} {below : List Frame} {meth : Method} {c : Code} {b L : Nat} {xs : Nat → Int32} {D : va_G} {cA : Nat → ClassId} {ad ad2 : Nat → Nat} {M N : Mm} {H : Heap} {locs : List Loc} {ls : Array Slot} {j : Nat} (C0 : lw_At p s m meth c b L xs) (hL : L ≤ 3072) (hK : KX D cA s) (hj : j + 6 ≤ L) (hR : Rel M N) (hX : lx_W D cA ad ad2 M N (lx_A s) s.heap H locs) (hl : lv_has ls 4 [(3, .int (nI j)), (2, .ref (ad2 0)), (1, .ref (ad 224)), (0, .ref b)]) (kk : lx_K p l e s m below meth c D cA b j) : W p l e room_1 s m #[Value.ref b] below meth c H locs 600000 7302250 (lw_Z below #[Value.ref b] s) (F0 m 517 ls []) := by
  obtain ⟨hx, hb, hr0, hml, hown, hts0, hXs, hbl, hlocks, hgv⟩ := C0
  have hts : ∀ w ∈ wsL_law, w.before #[Value.ref b] s = true := fun w h => hts0 w (wsL_law_in w h)
  obtain ⟨r, M2, N2, r1, r2, hR2⟩ := s_undo  hR
  refine lv_aload_n hx hb dL_law_517 rfl (lv_at hl 2 rfl) ?_
  refine lx_xi (va_runV (As := []) (rest := []) ⟨hx, hb, hml, hown, hts⟩ (c_X10_undo l D cA ad M r1) (cwV 0 hts gL_law_X10_undo rfl rfl rfl (by decide +kernel) ⟨(Nat.le_of_ble_eq_true rfl), (Nat.le_of_ble_eq_true rfl)⟩) (xpreV hK hX.1 (k := 224) rfl (by decide) rfl) rfl rfl hl.1 rfl (lv_room (Nat.le_of_ble_eq_true rfl)) dL_law_518 ⟨(Nat.le_of_ble_eq_true rfl), (Nat.le_of_ble_eq_true rfl)⟩) hX (fun ad1 H locs had hX => ?_)
  rw [show ad1 = ad from had] at hX
  refine lv_aload_n hx hb dL_law_521 rfl (lv_at hl 1 rfl) ?_
  refine lx_yi (va_runV (As := []) (rest := [.int r]) ⟨hx, hb, hml, hown, hts⟩ (c_X11_undo l D cA ad2 N r2) (cwV 0 hts gL_law_X11_undo rfl rfl rfl (by decide +kernel) ⟨(Nat.le_of_ble_eq_true rfl), (Nat.le_of_ble_eq_true rfl)⟩) (xpreV hK hX.2.1 (k := 0) rfl (by decide) rfl) rfl rfl hl.1 rfl (lv_room (Nat.le_of_ble_eq_true rfl)) dL_law_522 ⟨(Nat.le_of_ble_eq_true rfl), (Nat.le_of_ble_eq_true rfl)⟩) hX (fun H locs hX => ?_)
  refine lv_icmp_eq (tgt := 976) hx hb dL_law_525 (by decide) (fun _ => ?_) (fun c1 => absurd rfl c1)
  exact kk ad ad2 M2 N2 H locs ls hR2 hX hl
set_option maxHeartbeats 4000000 in
set_option maxRecDepth 100000 in
/-- save -/
theorem law_14 {p : Program} {l : Launch} {e : Env} {s : State} {m : MethodId} {below : List Frame} {meth : Method} {c : Code} {b L : Nat} {xs : Nat → Int32} {D : va_G} {cA : Nat → ClassId} {ad ad2 : Nat → Nat} {M N : Mm} {H : Heap} {locs : List Loc} {ls : Array Slot} {j : Nat} (C0 : lw_At p s m meth c b L xs) (hL : L ≤ 3072) (hK : KX D cA s) (hj : j + 6 ≤ L) (hR : Rel M N) (hX : lx_W D cA ad ad2 M N (lx_A s) s.heap H locs) (hl : lv_has ls 4 [(3, .int (nI j)), (2, .ref (ad2 0)), (1, .ref (ad 224)), (0, .ref b)]) (kk : lx_K p l e s m below meth c D cA b j) : W p l e room_1 s m #[Value.ref b] below meth c H locs 600000 7302250 (lw_Z below #[Value.ref b] s) (F0 m 530 ls []) := by
  obtain ⟨hx, hb, hr0, hml, hown, hts0, hXs, hbl, hlocks, hgv⟩ := C0
  have hts : ∀ w ∈ wsL_law, w.before #[Value.ref b] s = true := fun w h => hts0 w (wsL_law_in w h)
  obtain ⟨r, M2, N2, r1, r2, hR2⟩ := s_save (xs (j + 1)) hR
  refine lv_aload_n hx hb dL_law_530 rfl (lv_at hl 2 rfl) ?_
  refine lx_arg (k := 1) hx hb hXs hbl hX.1.2.2 hl (by omega) hL (by decide) dL_law_531 dL_law_532 dL_law_533 dL_law_534 dL_law_535 ?_
  refine lx_xi (va_runV (As := [.int (xs (j + 1))]) (rest := []) ⟨hx, hb, hml, hown, hts⟩ (c_X10_save l D cA ad M (xs (j + 1)) r1) (cwV 1 hts gL_law_X10_save rfl rfl rfl (by decide +kernel) ⟨(Nat.le_of_ble_eq_true rfl), (Nat.le_of_ble_eq_true rfl)⟩) (xpreV hK hX.1 (k := 224) rfl (by decide) rfl) rfl rfl hl.1 rfl (lv_room (Nat.le_of_ble_eq_true rfl)) dL_law_536 ⟨(Nat.le_of_ble_eq_true rfl), (Nat.le_of_ble_eq_true rfl)⟩) hX (fun ad1 H locs had hX => ?_)
  rw [show ad1 = ad from had] at hX
  refine lv_aload_n hx hb dL_law_539 rfl (lv_at hl 1 rfl) ?_
  refine lx_arg (k := 1) hx hb hXs hbl hX.1.2.2 hl (by omega) hL (by decide) dL_law_540 dL_law_541 dL_law_542 dL_law_543 dL_law_544 ?_
  refine lx_yi (va_runV (As := [.int (xs (j + 1))]) (rest := [.int r]) ⟨hx, hb, hml, hown, hts⟩ (c_X11_save l D cA ad2 N (xs (j + 1)) r2) (cwV 1 hts gL_law_X11_save rfl rfl rfl (by decide +kernel) ⟨(Nat.le_of_ble_eq_true rfl), (Nat.le_of_ble_eq_true rfl)⟩) (xpreV hK hX.2.1 (k := 0) rfl (by decide) rfl) rfl rfl hl.1 rfl (lv_room (Nat.le_of_ble_eq_true rfl)) dL_law_545 ⟨(Nat.le_of_ble_eq_true rfl), (Nat.le_of_ble_eq_true rfl)⟩) hX (fun H locs hX => ?_)
  refine lv_icmp_eq (tgt := 976) hx hb dL_law_548 (by decide) (fun _ => ?_) (fun c1 => absurd rfl c1)
  exact kk ad ad2 M2 N2 H locs ls hR2 hX hl
set_option maxHeartbeats 4000000 in
set_option maxRecDepth 100000 in
/-- restore -/
theorem law_15 {p : Program} {l : Launch} {e : Env} {s : State} {m : MethodId} {below : List Frame} {meth : Method} {c : Code} {b L : Nat} {xs : Nat → Int32} {D : va_G} {cA : Nat → ClassId} {ad ad2 : Nat → Nat} {M N : Mm} {H : Heap} {locs : List Loc} {ls : Array Slot} {j : Nat} (C0 : lw_At p s m meth c b L xs) (hL : L ≤ 3072) (hK : KX D cA s) (hj : j + 6 ≤ L) (hR : Rel M N) (hX : lx_W D cA ad ad2 M N (lx_A s) s.heap H locs) (hl : lv_has ls 4 [(3, .int (nI j)), (2, .ref (ad2 0)), (1, .ref (ad 224)), (0, .ref b)]) (kk : lx_K p l e s m below meth c D cA b j) : W p l e room_1 s m #[Value.ref b] below meth c H locs 600000 7302250 (lw_Z below #[Value.ref b] s) (F0 m 553 ls []) := by
  obtain ⟨hx, hb, hr0, hml, hown, hts0, hXs, hbl, hlocks, hgv⟩ := C0
  have hts : ∀ w ∈ wsL_law, w.before #[Value.ref b] s = true := fun w h => hts0 w (wsL_law_in w h)
  obtain ⟨r, M2, N2, r1, r2, hR2⟩ := s_restore (xs (j + 1)) hR
  refine lv_aload_n hx hb dL_law_553 rfl (lv_at hl 2 rfl) ?_
  refine lx_arg (k := 1) hx hb hXs hbl hX.1.2.2 hl (by omega) hL (by decide) dL_law_554 dL_law_555 dL_law_556 dL_law_557 dL_law_558 ?_
  refine lx_xi (va_runV (As := [.int (xs (j + 1))]) (rest := []) ⟨hx, hb, hml, hown, hts⟩ (c_X10_restore l D cA ad M (xs (j + 1)) r1) (cwV 1 hts gL_law_X10_restore rfl rfl rfl (by decide +kernel) ⟨(Nat.le_of_ble_eq_true rfl), (Nat.le_of_ble_eq_true rfl)⟩) (xpreV hK hX.1 (k := 224) rfl (by decide) rfl) rfl rfl hl.1 rfl (lv_room (Nat.le_of_ble_eq_true rfl)) dL_law_559 ⟨(Nat.le_of_ble_eq_true rfl), (Nat.le_of_ble_eq_true rfl)⟩) hX (fun ad1 H locs had hX => ?_)
  rw [← had.1 224 rfl] at hl
  refine lv_aload_n hx hb dL_law_562 rfl (lv_at hl 1 rfl) ?_
  refine lx_arg (k := 1) hx hb hXs hbl hX.1.2.2 hl (by omega) hL (by decide) dL_law_563 dL_law_564 dL_law_565 dL_law_566 dL_law_567 ?_
  refine lx_yi (va_runV (As := [.int (xs (j + 1))]) (rest := [.int r]) ⟨hx, hb, hml, hown, hts⟩ (c_X11_restore l D cA ad2 N (xs (j + 1)) r2) (cwV 1 hts gL_law_X11_restore rfl rfl rfl (by decide +kernel) ⟨(Nat.le_of_ble_eq_true rfl), (Nat.le_of_ble_eq_true rfl)⟩) (xpreV hK hX.2.1 (k := 0) rfl (by decide) rfl) rfl rfl hl.1 rfl (lv_room (Nat.le_of_ble_eq_true rfl)) dL_law_568 ⟨(Nat.le_of_ble_eq_true rfl), (Nat.le_of_ble_eq_true rfl)⟩) hX (fun H locs hX => ?_)
  refine lv_icmp_eq (tgt := 976) hx hb dL_law_571 (by decide) (fun _ => ?_) (fun c1 => absurd rfl c1)
  exact kk ad1 ad2 M2 N2 H locs ls hR2 hX hl
set_option maxHeartbeats 4000000 in
set_option maxRecDepth 100000 in
/-- path -/
theorem law_16 {p : Program} {l : Launch} {e : Env} {s : State} {m : MethodId} {below : List Frame} {meth : Method} {c : Code} {b L : Nat} {xs : Nat → Int32} {D : va_G} {cA : Nat → ClassId} {ad ad2 : Nat → Nat} {M N : Mm} {H : Heap} {locs : List Loc} {ls : Array Slot} {j : Nat} (C0 : lw_At p s m meth c b L xs) (hL : L ≤ 3072) (hK : KX D cA s) (hj : j + 6 ≤ L) (hR : Rel M N) (hX : lx_W D cA ad ad2 M N (lx_A s) s.heap H locs) (hl : lv_has ls 4 [(3, .int (nI j)), (2, .ref (ad2 0)), (1, .ref (ad 224)), (0, .ref b)]) (kk : lx_K p l e s m below meth c D cA b j) : W p l e room_1 s m #[Value.ref b] below meth c H locs 600000 7302250 (lw_Z below #[Value.ref b] s) (F0 m 576 ls []) := by
  obtain ⟨hx, hb, hr0, hml, hown, hts0, hXs, hbl, hlocks, hgv⟩ := C0
  have hts : ∀ w ∈ wsL_law, w.before #[Value.ref b] s = true := fun w h => hts0 w (wsL_law_in w h)
  obtain ⟨r, r1, r2⟩ := s_path (xs (j + 1)) (xs (j + 2)) hR
  refine lv_aload_n hx hb dL_law_576 rfl (lv_at hl 2 rfl) ?_
  refine lx_arg (k := 1) hx hb hXs hbl hX.1.2.2 hl (by omega) hL (by decide) dL_law_577 dL_law_578 dL_law_579 dL_law_580 dL_law_581 ?_
  refine lx_arg (k := 2) hx hb hXs hbl hX.1.2.2 hl (by omega) hL (by decide) dL_law_582 dL_law_583 dL_law_584 dL_law_585 dL_law_586 ?_
  refine lx_xi (va_runV (As := [.int (xs (j + 1)), .int (xs (j + 2))]) (rest := []) ⟨hx, hb, hml, hown, hts⟩ (c_X10_path l D cA ad M (xs (j + 1)) (xs (j + 2)) r1) (cwV 2 hts gL_law_X10_path rfl rfl rfl (by decide +kernel) ⟨(Nat.le_of_ble_eq_true rfl), (Nat.le_of_ble_eq_true rfl)⟩) (xpreV hK hX.1 (k := 224) rfl (by decide) rfl) rfl rfl hl.1 rfl (lv_room (Nat.le_of_ble_eq_true rfl)) dL_law_587 ⟨(Nat.le_of_ble_eq_true rfl), (Nat.le_of_ble_eq_true rfl)⟩) hX (fun ad1 H locs had hX => ?_)
  rw [show ad1 = ad from had] at hX
  refine lv_aload_n hx hb dL_law_590 rfl (lv_at hl 1 rfl) ?_
  refine lx_arg (k := 1) hx hb hXs hbl hX.1.2.2 hl (by omega) hL (by decide) dL_law_591 dL_law_592 dL_law_593 dL_law_594 dL_law_595 ?_
  refine lx_arg (k := 2) hx hb hXs hbl hX.1.2.2 hl (by omega) hL (by decide) dL_law_596 dL_law_597 dL_law_598 dL_law_599 dL_law_600 ?_
  refine lx_yi (va_runV (As := [.int (xs (j + 1)), .int (xs (j + 2))]) (rest := [.int r]) ⟨hx, hb, hml, hown, hts⟩ (c_X11_path l D cA ad2 N (xs (j + 1)) (xs (j + 2)) r2) (cwV 2 hts gL_law_X11_path rfl rfl rfl (by decide +kernel) ⟨(Nat.le_of_ble_eq_true rfl), (Nat.le_of_ble_eq_true rfl)⟩) (xpreV hK hX.2.1 (k := 0) rfl (by decide) rfl) rfl rfl hl.1 rfl (lv_room (Nat.le_of_ble_eq_true rfl)) dL_law_601 ⟨(Nat.le_of_ble_eq_true rfl), (Nat.le_of_ble_eq_true rfl)⟩) hX (fun H locs hX => ?_)
  refine lv_icmp_eq (tgt := 976) hx hb dL_law_604 (by decide) (fun _ => ?_) (fun c1 => absurd rfl c1)
  exact kk ad ad2 M N H locs ls hR hX hl
set_option maxHeartbeats 4000000 in
set_option maxRecDepth 100000 in
/-- told -/
theorem law_17 {p : Program} {l : Launch} {e : Env} {s : State} {m : MethodId} {below : List Frame} {meth : Method} {c : Code} {b L : Nat} {xs : Nat → Int32} {D : va_G} {cA : Nat → ClassId} {ad ad2 : Nat → Nat} {M N : Mm} {H : Heap} {locs : List Loc} {ls : Array Slot} {j : Nat} (C0 : lw_At p s m meth c b L xs) (hL : L ≤ 3072) (hK : KX D cA s) (hj : j + 6 ≤ L) (hR : Rel M N) (hX : lx_W D cA ad ad2 M N (lx_A s) s.heap H locs) (hl : lv_has ls 4 [(3, .int (nI j)), (2, .ref (ad2 0)), (1, .ref (ad 224)), (0, .ref b)]) (kk : lx_K p l e s m below meth c D cA b j) : W p l e room_1 s m #[Value.ref b] below meth c H locs 600000 7302250 (lw_Z below #[Value.ref b] s) (F0 m 609 ls []) := by
  obtain ⟨hx, hb, hr0, hml, hown, hts0, hXs, hbl, hlocks, hgv⟩ := C0
  have hts : ∀ w ∈ wsL_law, w.before #[Value.ref b] s = true := fun w h => hts0 w (wsL_law_in w h)
  obtain ⟨r, r1, r2⟩ := s_told (xs (j + 1)) (xs (j + 2)) hR
  refine lv_aload_n hx hb dL_law_609 rfl (lv_at hl 2 rfl) ?_
  refine lx_arg (k := 1) hx hb hXs hbl hX.1.2.2 hl (by omega) hL (by decide) dL_law_610 dL_law_611 dL_law_612 dL_law_613 dL_law_614 ?_
  refine lx_arg (k := 2) hx hb hXs hbl hX.1.2.2 hl (by omega) hL (by decide) dL_law_615 dL_law_616 dL_law_617 dL_law_618 dL_law_619 ?_
  refine lx_xi (va_runV (As := [.int (xs (j + 1)), .int (xs (j + 2))]) (rest := []) ⟨hx, hb, hml, hown, hts⟩ (c_X10_told l D cA ad M (xs (j + 1)) (xs (j + 2)) r1) (cwV 2 hts gL_law_X10_told rfl rfl rfl (by decide +kernel) ⟨(Nat.le_of_ble_eq_true rfl), (Nat.le_of_ble_eq_true rfl)⟩) (xpreV hK hX.1 (k := 224) rfl (by decide) rfl) rfl rfl hl.1 rfl (lv_room (Nat.le_of_ble_eq_true rfl)) dL_law_620 ⟨(Nat.le_of_ble_eq_true rfl), (Nat.le_of_ble_eq_true rfl)⟩) hX (fun ad1 H locs had hX => ?_)
  rw [show ad1 = ad from had] at hX
  refine lv_aload_n hx hb dL_law_623 rfl (lv_at hl 1 rfl) ?_
  refine lx_arg (k := 1) hx hb hXs hbl hX.1.2.2 hl (by omega) hL (by decide) dL_law_624 dL_law_625 dL_law_626 dL_law_627 dL_law_628 ?_
  refine lx_arg (k := 2) hx hb hXs hbl hX.1.2.2 hl (by omega) hL (by decide) dL_law_629 dL_law_630 dL_law_631 dL_law_632 dL_law_633 ?_
  refine lx_yi (va_runV (As := [.int (xs (j + 1)), .int (xs (j + 2))]) (rest := [.int r]) ⟨hx, hb, hml, hown, hts⟩ (c_X11_told l D cA ad2 N (xs (j + 1)) (xs (j + 2)) r2) (cwV 2 hts gL_law_X11_told rfl rfl rfl (by decide +kernel) ⟨(Nat.le_of_ble_eq_true rfl), (Nat.le_of_ble_eq_true rfl)⟩) (xpreV hK hX.2.1 (k := 0) rfl (by decide) rfl) rfl rfl hl.1 rfl (lv_room (Nat.le_of_ble_eq_true rfl)) dL_law_634 ⟨(Nat.le_of_ble_eq_true rfl), (Nat.le_of_ble_eq_true rfl)⟩) hX (fun H locs hX => ?_)
  refine lv_icmp_eq (tgt := 976) hx hb dL_law_637 (by decide) (fun _ => ?_) (fun c1 => absurd rfl c1)
  exact kk ad ad2 M N H locs ls hR hX hl
set_option maxHeartbeats 4000000 in
set_option maxRecDepth 100000 in
/-- sound -/
theorem law_18 {p : Program} {l : Launch} {e : Env} {s : State} {m : MethodId} {below : List Frame} {meth : Method} {c : Code} {b L : Nat} {xs : Nat → Int32} {D : va_G} {cA : Nat → ClassId} {ad ad2 : Nat → Nat} {M N : Mm} {H : Heap} {locs : List Loc} {ls : Array Slot} {j : Nat} (C0 : lw_At p s m meth c b L xs) (hL : L ≤ 3072) (hK : KX D cA s) (hj : j + 6 ≤ L) (hR : Rel M N) (hX : lx_W D cA ad ad2 M N (lx_A s) s.heap H locs) (hl : lv_has ls 4 [(3, .int (nI j)), (2, .ref (ad2 0)), (1, .ref (ad 224)), (0, .ref b)]) (kk : lx_K p l e s m below meth c D cA b j) : W p l e room_1 s m #[Value.ref b] below meth c H locs 600000 7302250 (lw_Z below #[Value.ref b] s) (F0 m 642 ls []) := by
  obtain ⟨hx, hb, hr0, hml, hown, hts0, hXs, hbl, hlocks, hgv⟩ := C0
  have hts : ∀ w ∈ wsL_law, w.before #[Value.ref b] s = true := fun w h => hts0 w (wsL_law_in w h)
  obtain ⟨r, r1, r2⟩ := s_sound (xs (j + 1)) hR
  refine lv_aload_n hx hb dL_law_642 rfl (lv_at hl 2 rfl) ?_
  refine lx_arg (k := 1) hx hb hXs hbl hX.1.2.2 hl (by omega) hL (by decide) dL_law_643 dL_law_644 dL_law_645 dL_law_646 dL_law_647 ?_
  refine lx_xl (va_runV (As := [.int (xs (j + 1))]) (rest := []) ⟨hx, hb, hml, hown, hts⟩ (c_X10_sound l D cA ad M (xs (j + 1)) r1) (cwV 1 hts gL_law_X10_sound rfl rfl rfl (by decide +kernel) ⟨(Nat.le_of_ble_eq_true rfl), (Nat.le_of_ble_eq_true rfl)⟩) (xpreV hK hX.1 (k := 224) rfl (by decide) rfl) rfl rfl hl.1 rfl (lv_room (Nat.le_of_ble_eq_true rfl)) dL_law_648 ⟨(Nat.le_of_ble_eq_true rfl), (Nat.le_of_ble_eq_true rfl)⟩) hX (fun ad1 H locs had hX => ?_)
  rw [show ad1 = ad from had] at hX
  refine lv_aload_n hx hb dL_law_651 rfl (lv_at hl 1 rfl) ?_
  refine lx_arg (k := 1) hx hb hXs hbl hX.1.2.2 hl (by omega) hL (by decide) dL_law_652 dL_law_653 dL_law_654 dL_law_655 dL_law_656 ?_
  refine lx_yl (va_runV (As := [.int (xs (j + 1))]) (rest := [.long r]) ⟨hx, hb, hml, hown, hts⟩ (c_X11_sound l D cA ad2 N (xs (j + 1)) r2) (cwV 1 hts gL_law_X11_sound rfl rfl rfl (by decide +kernel) ⟨(Nat.le_of_ble_eq_true rfl), (Nat.le_of_ble_eq_true rfl)⟩) (xpreV hK hX.2.1 (k := 0) rfl (by decide) rfl) rfl rfl hl.1 rfl (lv_room (Nat.le_of_ble_eq_true rfl)) dL_law_657 ⟨(Nat.le_of_ble_eq_true rfl), (Nat.le_of_ble_eq_true rfl)⟩) hX (fun H locs hX => ?_)
  refine xlc_eq (tgt := 976) hx hb dL_law_660 dL_law_661 (by decide) (fun _ => ?_) (fun c1 => absurd rfl c1)
  exact kk ad ad2 M N H locs ls hR hX hl
set_option maxHeartbeats 4000000 in
set_option maxRecDepth 100000 in
/-- factor -/
theorem law_19 {p : Program} {l : Launch} {e : Env} {s : State} {m : MethodId} {below : List Frame} {meth : Method} {c : Code} {b L : Nat} {xs : Nat → Int32} {D : va_G} {cA : Nat → ClassId} {ad ad2 : Nat → Nat} {M N : Mm} {H : Heap} {locs : List Loc} {ls : Array Slot} {j : Nat} (C0 : lw_At p s m meth c b L xs) (hL : L ≤ 3072) (hK : KX D cA s) (hj : j + 6 ≤ L) (hR : Rel M N) (hX : lx_W D cA ad ad2 M N (lx_A s) s.heap H locs) (hl : lv_has ls 4 [(3, .int (nI j)), (2, .ref (ad2 0)), (1, .ref (ad 224)), (0, .ref b)]) (kk : lx_K p l e s m below meth c D cA b j) : W p l e room_1 s m #[Value.ref b] below meth c H locs 600000 7302250 (lw_Z below #[Value.ref b] s) (F0 m 666 ls []) := by
  obtain ⟨hx, hb, hr0, hml, hown, hts0, hXs, hbl, hlocks, hgv⟩ := C0
  have hts : ∀ w ∈ wsL_law, w.before #[Value.ref b] s = true := fun w h => hts0 w (wsL_law_in w h)
  obtain ⟨r, r1, r2⟩ := s_factor (xs (j + 1)) hR
  refine lv_aload_n hx hb dL_law_666 rfl (lv_at hl 2 rfl) ?_
  refine lx_arg (k := 1) hx hb hXs hbl hX.1.2.2 hl (by omega) hL (by decide) dL_law_667 dL_law_668 dL_law_669 dL_law_670 dL_law_671 ?_
  refine lx_xi (va_runV (As := [.int (xs (j + 1))]) (rest := []) ⟨hx, hb, hml, hown, hts⟩ (c_X10_factor l D cA ad M (xs (j + 1)) r1) (cwV 1 hts gL_law_X10_factor rfl rfl rfl (by decide +kernel) ⟨(Nat.le_of_ble_eq_true rfl), (Nat.le_of_ble_eq_true rfl)⟩) (xpreV hK hX.1 (k := 224) rfl (by decide) rfl) rfl rfl hl.1 rfl (lv_room (Nat.le_of_ble_eq_true rfl)) dL_law_672 ⟨(Nat.le_of_ble_eq_true rfl), (Nat.le_of_ble_eq_true rfl)⟩) hX (fun ad1 H locs had hX => ?_)
  rw [show ad1 = ad from had] at hX
  refine lv_aload_n hx hb dL_law_675 rfl (lv_at hl 1 rfl) ?_
  refine lx_arg (k := 1) hx hb hXs hbl hX.1.2.2 hl (by omega) hL (by decide) dL_law_676 dL_law_677 dL_law_678 dL_law_679 dL_law_680 ?_
  refine lx_yi (va_runV (As := [.int (xs (j + 1))]) (rest := [.int r]) ⟨hx, hb, hml, hown, hts⟩ (c_X11_factor l D cA ad2 N (xs (j + 1)) r2) (cwV 1 hts gL_law_X11_factor rfl rfl rfl (by decide +kernel) ⟨(Nat.le_of_ble_eq_true rfl), (Nat.le_of_ble_eq_true rfl)⟩) (xpreV hK hX.2.1 (k := 0) rfl (by decide) rfl) rfl rfl hl.1 rfl (lv_room (Nat.le_of_ble_eq_true rfl)) dL_law_681 ⟨(Nat.le_of_ble_eq_true rfl), (Nat.le_of_ble_eq_true rfl)⟩) hX (fun H locs hX => ?_)
  refine lv_icmp_eq (tgt := 976) hx hb dL_law_684 (by decide) (fun _ => ?_) (fun c1 => absurd rfl c1)
  exact kk ad ad2 M N H locs ls hR hX hl

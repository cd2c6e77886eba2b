/-! THE LAW, 6: cases -/
set_option maxHeartbeats 4000000 in
set_option maxRecDepth 100000 in
/-- round -/
theorem law_20 {p : Program} {l : Launch} {e : Env} {s : State} {m : MethodId} {below : List Frame} {meth : Method} {c : Code} {b L : Nat} {xs : Nat → Int32} {D : va_G} {cA : Nat → ClassId} {ad ad2 : Nat → Nat} {M N : Mm} {H : Heap} {locs : List Loc} {ls : Array Slot} {j : Nat} (C0 : lw_At p s m meth c b L xs) (hL : L ≤ 3072) (hK : KX D cA s) (hj : j + 6 ≤ L) (hR : Rel M N) (hX : lx_W D cA ad ad2 M N (lx_A s) s.heap H locs) (hl : lv_has ls 4 [(3, .int (nI j)), (2, .ref (ad2 0)), (1, .ref (ad 224)), (0, .ref b)]) (kk : lx_K p l e s m below meth c D cA b j) : W p l e room_1 s m #[Value.ref b] below meth c H locs 600000 7302250 (lw_Z below #[Value.ref b] s) (F0 m 689 ls []) := by
  obtain ⟨hx, hb, hr0, hml, hown, hts0, hXs, hbl, hlocks, hgv⟩ := C0
  have hts : ∀ w ∈ wsL_law, w.before #[Value.ref b] s = true := fun w h => hts0 w (wsL_law_in w h)
  obtain ⟨r, r1, r2⟩ := s_round (xs (j + 1)) (xs (j + 2)) hR
  refine lv_aload_n hx hb dL_law_689 rfl (lv_at hl 2 rfl) ?_
  refine lx_arg (k := 1) hx hb hXs hbl hX.1.2.2 hl (by omega) hL (by decide) dL_law_690 dL_law_691 dL_law_692 dL_law_693 dL_law_694 ?_
  refine lx_arg (k := 2) hx hb hXs hbl hX.1.2.2 hl (by omega) hL (by decide) dL_law_695 dL_law_696 dL_law_697 dL_law_698 dL_law_699 ?_
  refine lx_xi (va_runV (As := [.int (xs (j + 1)), .int (xs (j + 2))]) (rest := []) ⟨hx, hb, hml, hown, hts⟩ (c_X10_round l D cA ad M (xs (j + 1)) (xs (j + 2)) r1) (cwV 2 hts gL_law_X10_round rfl rfl rfl (by decide +kernel) ⟨(Nat.le_of_ble_eq_true rfl), (Nat.le_of_ble_eq_true rfl)⟩) (xpreV hK hX.1 (k := 224) rfl (by decide) rfl) rfl rfl hl.1 rfl (lv_room (Nat.le_of_ble_eq_true rfl)) dL_law_700 ⟨(Nat.le_of_ble_eq_true rfl), (Nat.le_of_ble_eq_true rfl)⟩) hX (fun ad1 H locs had hX => ?_)
  rw [show ad1 = ad from had] at hX
  refine lv_aload_n hx hb dL_law_703 rfl (lv_at hl 1 rfl) ?_
  refine lx_arg (k := 1) hx hb hXs hbl hX.1.2.2 hl (by omega) hL (by decide) dL_law_704 dL_law_705 dL_law_706 dL_law_707 dL_law_708 ?_
  refine lx_arg (k := 2) hx hb hXs hbl hX.1.2.2 hl (by omega) hL (by decide) dL_law_709 dL_law_710 dL_law_711 dL_law_712 dL_law_713 ?_
  refine lx_yi (va_runV (As := [.int (xs (j + 1)), .int (xs (j + 2))]) (rest := [.int r]) ⟨hx, hb, hml, hown, hts⟩ (c_X11_round l D cA ad2 N (xs (j + 1)) (xs (j + 2)) r2) (cwV 2 hts gL_law_X11_round rfl rfl rfl (by decide +kernel) ⟨(Nat.le_of_ble_eq_true rfl), (Nat.le_of_ble_eq_true rfl)⟩) (xpreV hK hX.2.1 (k := 0) rfl (by decide) rfl) rfl rfl hl.1 rfl (lv_room (Nat.le_of_ble_eq_true rfl)) dL_law_714 ⟨(Nat.le_of_ble_eq_true rfl), (Nat.le_of_ble_eq_true rfl)⟩) hX (fun H locs hX => ?_)
  refine lv_icmp_eq (tgt := 976) hx hb dL_law_717 (by decide) (fun _ => ?_) (fun c1 => absurd rfl c1)
  exact kk ad ad2 M N H locs ls hR hX hl
set_option maxHeartbeats 4000000 in
set_option maxRecDepth 100000 in
/-- volume -/
theorem law_21 {p : Program} {l : Launch} {e : Env} {s : State} {m : MethodId} {below : List Frame} {meth : Method} {c : Code} {b L : Nat} {xs : Nat → Int32} {D : va_G} {cA : Nat → ClassId} {ad ad2 : Nat → Nat} {M N : Mm} {H : Heap} {locs : List Loc} {ls : Array Slot} {j : Nat} (C0 : lw_At p s m meth c b L xs) (hL : L ≤ 3072) (hK : KX D cA s) (hj : j + 6 ≤ L) (hR : Rel M N) (hX : lx_W D cA ad ad2 M N (lx_A s) s.heap H locs) (hl : lv_has ls 4 [(3, .int (nI j)), (2, .ref (ad2 0)), (1, .ref (ad 224)), (0, .ref b)]) (kk : lx_K p l e s m below meth c D cA b j) : W p l e room_1 s m #[Value.ref b] below meth c H locs 600000 7302250 (lw_Z below #[Value.ref b] s) (F0 m 722 ls []) := by
  obtain ⟨hx, hb, hr0, hml, hown, hts0, hXs, hbl, hlocks, hgv⟩ := C0
  have hts : ∀ w ∈ wsL_law, w.before #[Value.ref b] s = true := fun w h => hts0 w (wsL_law_in w h)
  obtain ⟨r, r1, r2⟩ := s_volume (xs (j + 1)) hR
  refine lv_aload_n hx hb dL_law_722 rfl (lv_at hl 2 rfl) ?_
  refine lx_arg (k := 1) hx hb hXs hbl hX.1.2.2 hl (by omega) hL (by decide) dL_law_723 dL_law_724 dL_law_725 dL_law_726 dL_law_727 ?_
  refine lx_xl (va_runV (As := [.int (xs (j + 1))]) (rest := []) ⟨hx, hb, hml, hown, hts⟩ (c_X10_volume l D cA ad M (xs (j + 1)) r1) (cwV 1 hts gL_law_X10_volume rfl rfl rfl (by decide +kernel) ⟨(Nat.le_of_ble_eq_true rfl), (Nat.le_of_ble_eq_true rfl)⟩) (xpreV hK hX.1 (k := 224) rfl (by decide) rfl) rfl rfl hl.1 rfl (lv_room (Nat.le_of_ble_eq_true rfl)) dL_law_728 ⟨(Nat.le_of_ble_eq_true rfl), (Nat.le_of_ble_eq_true rfl)⟩) hX (fun ad1 H locs had hX => ?_)
  rw [show ad1 = ad from had] at hX
  refine lv_aload_n hx hb dL_law_731 rfl (lv_at hl 1 rfl) ?_
  refine lx_arg (k := 1) hx hb hXs hbl hX.1.2.2 hl (by omega) hL (by decide) dL_law_732 dL_law_733 dL_law_734 dL_law_735 dL_law_736 ?_
  refine lx_yl (va_runV (As := [.int (xs (j + 1))]) (rest := [.long r]) ⟨hx, hb, hml, hown, hts⟩ (c_X11_volume l D cA ad2 N (xs (j + 1)) r2) (cwV 1 hts gL_law_X11_volume rfl rfl rfl (by decide +kernel) ⟨(Nat.le_of_ble_eq_true rfl), (Nat.le_of_ble_eq_true rfl)⟩) (xpreV hK hX.2.1 (k := 0) rfl (by decide) rfl) rfl rfl hl.1 rfl (lv_room (Nat.le_of_ble_eq_true rfl)) dL_law_737 ⟨(Nat.le_of_ble_eq_true rfl), (Nat.le_of_ble_eq_true rfl)⟩) hX (fun H locs hX => ?_)
  refine xlc_eq (tgt := 976) hx hb dL_law_740 dL_law_741 (by decide) (fun _ => ?_) (fun c1 => absurd rfl c1)
  exact kk ad ad2 M N H locs ls hR hX hl
set_option maxHeartbeats 4000000 in
set_option maxRecDepth 100000 in
/-- statistic -/
theorem law_22 {p : Program} {l : Launch} {e : Env} {s : State} {m : MethodId} {below : List Frame} {meth : Method} {c : Code} {b L : Nat} {xs : Nat → Int32} {D : va_G} {cA : Nat → ClassId} {ad ad2 : Nat → Nat} {M N : Mm} {H : Heap} {locs : List Loc} {ls : Array Slot} {j : Nat} (C0 : lw_At p s m meth c b L xs) (hL : L ≤ 3072) (hK : KX D cA s) (hj : j + 6 ≤ L) (hR : Rel M N) (hX : lx_W D cA ad ad2 M N (lx_A s) s.heap H locs) (hl : lv_has ls 4 [(3, .int (nI j)), (2, .ref (ad2 0)), (1, .ref (ad 224)), (0, .ref b)]) (kk : lx_K p l e s m below meth c D cA b j) : W p l e room_1 s m #[Value.ref b] below meth c H locs 600000 7302250 (lw_Z below #[Value.ref b] s) (F0 m 746 ls []) := by
  obtain ⟨hx, hb, hr0, hml, hown, hts0, hXs, hbl, hlocks, hgv⟩ := C0
  have hts : ∀ w ∈ wsL_law, w.before #[Value.ref b] s = true := fun w h => hts0 w (wsL_law_in w h)
  obtain ⟨r, N2, r1, r2, hR2⟩ := s_statistic (xs (j + 1)) hR
  refine lv_aload_n hx hb dL_law_746 rfl (lv_at hl 2 rfl) ?_
  refine lx_arg (k := 1) hx hb hXs hbl hX.1.2.2 hl (by omega) hL (by decide) dL_law_747 dL_law_748 dL_law_749 dL_law_750 dL_law_751 ?_
  refine lx_xi (va_runV (As := [.int (xs (j + 1))]) (rest := []) ⟨hx, hb, hml, hown, hts⟩ (c_X10_statistic l D cA ad M (xs (j + 1)) r1) (cwV 1 hts gL_law_X10_statistic rfl rfl rfl (by decide +kernel) ⟨(Nat.le_of_ble_eq_true rfl), (Nat.le_of_ble_eq_true rfl)⟩) (xpreV hK hX.1 (k := 224) rfl (by decide) rfl) rfl rfl hl.1 rfl (lv_room (Nat.le_of_ble_eq_true rfl)) dL_law_752 ⟨(Nat.le_of_ble_eq_true rfl), (Nat.le_of_ble_eq_true rfl)⟩) hX (fun ad1 H locs had hX => ?_)
  rw [show ad1 = ad from had] at hX
  refine lv_aload_n hx hb dL_law_755 rfl (lv_at hl 1 rfl) ?_
  refine lx_arg (k := 1) hx hb hXs hbl hX.1.2.2 hl (by omega) hL (by decide) dL_law_756 dL_law_757 dL_law_758 dL_law_759 dL_law_760 ?_
  refine lx_yi (va_runV (As := [.int (xs (j + 1))]) (rest := [.int r]) ⟨hx, hb, hml, hown, hts⟩ (c_X11_statistic l D cA ad2 N (xs (j + 1)) r2) (cwV 1 hts gL_law_X11_statistic rfl rfl rfl (by decide +kernel) ⟨(Nat.le_of_ble_eq_true rfl), (Nat.le_of_ble_eq_true rfl)⟩) (xpreV hK hX.2.1 (k := 0) rfl (by decide) rfl) rfl rfl hl.1 rfl (lv_room (Nat.le_of_ble_eq_true rfl)) dL_law_761 ⟨(Nat.le_of_ble_eq_true rfl), (Nat.le_of_ble_eq_true rfl)⟩) hX (fun H locs hX => ?_)
  refine lv_icmp_eq (tgt := 976) hx hb dL_law_764 (by decide) (fun _ => ?_) (fun c1 => absurd rfl c1)
  exact kk ad ad2 M N2 H locs ls hR2 hX hl
set_option maxHeartbeats 4000000 in
set_option maxRecDepth 100000 in
/-- trust -/
theorem law_23 {p : Program} {l : Launch} {e : Env} {s : State} {m : MethodId} {below : List Frame} {meth : Method} {c : Code} {b L : Nat} {xs : Nat → Int32} {D : va_G} {cA : Nat → ClassId} {ad ad2 : Nat → Nat} {M N : Mm} {H : Heap} {locs : List Loc} {ls : Array Slot} {j : Nat} (C0 : lw_At p s m meth c b L xs) (hL : L ≤ 3072) (hK : KX D cA s) (hj : j + 6 ≤ L) (hR : Rel M N) (hX : lx_W D cA ad ad2 M N (lx_A s) s.heap H locs) (hl : lv_has ls 4 [(3, .int (nI j)), (2, .ref (ad2 0)), (1, .ref (ad 224)), (0, .ref b)]) (kk : lx_K p l e s m below meth c D cA b j) : W p l e room_1 s m #[Value.ref b] below meth c H locs 600000 7302250 (lw_Z below #[Value.ref b] s) (F0 m 769 ls []) := by
  obtain ⟨hx, hb, hr0, hml, hown, hts0, hXs, hbl, hlocks, hgv⟩ := C0
  have hts : ∀ w ∈ wsL_law, w.before #[Value.ref b] s = true := fun w h => hts0 w (wsL_law_in w h)
  obtain ⟨r, r1, r2⟩ := s_trust (xs (j + 1)) hR
  refine lv_aload_n hx hb dL_law_769 rfl (lv_at hl 2 rfl) ?_
  refine lx_arg (k := 1) hx hb hXs hbl hX.1.2.2 hl (by omega) hL (by decide) dL_law_770 dL_law_771 dL_law_772 dL_law_773 dL_law_774 ?_
  refine lx_xi (va_runV (As := [.int (xs (j + 1))]) (rest := []) ⟨hx, hb, hml, hown, hts⟩ (c_X10_trust l D cA ad M (xs (j + 1)) r1) (cwV 1 hts gL_law_X10_trust rfl rfl rfl (by decide +kernel) ⟨(Nat.le_of_ble_eq_true rfl), (Nat.le_of_ble_eq_true rfl)⟩) (xpreV hK hX.1 (k := 224) rfl (by decide) rfl) rfl rfl hl.1 rfl (lv_room (Nat.le_of_ble_eq_true rfl)) dL_law_775 ⟨(Nat.le_of_ble_eq_true rfl), (Nat.le_of_ble_eq_true rfl)⟩) hX (fun ad1 H locs had hX => ?_)
  rw [show ad1 = ad from had] at hX
  refine lv_aload_n hx hb dL_law_778 rfl (lv_at hl 1 rfl) ?_
  refine lx_arg (k := 1) hx hb hXs hbl hX.1.2.2 hl (by omega) hL (by decide) dL_law_779 dL_law_780 dL_law_781 dL_law_782 dL_law_783 ?_
  refine lx_yi (va_runV (As := [.int (xs (j + 1))]) (rest := [.int r]) ⟨hx, hb, hml, hown, hts⟩ (c_X11_trust l D cA ad2 N (xs (j + 1)) r2) (cwV 1 hts gL_law_X11_trust rfl rfl rfl (by decide +kernel) ⟨(Nat.le_of_ble_eq_true rfl), (Nat.le_of_ble_eq_true rfl)⟩) (xpreV hK hX.2.1 (k := 0) rfl (by decide) rfl) rfl rfl hl.1 rfl (lv_room (Nat.le_of_ble_eq_true rfl)) dL_law_784 ⟨(Nat.le_of_ble_eq_true rfl), (Nat.le_of_ble_eq_true rfl)⟩) hX (fun H locs hX => ?_)
  refine lv_icmp_eq (tgt := 976) hx hb dL_law_787 (by decide) (fun _ => ?_) (fun c1 => absurd rfl c1)
  exact kk ad ad2 M N H locs ls hR hX hl
set_option maxHeartbeats 4000000 in
set_option maxRecDepth 100000 in
/-- total -/
theorem law_24 {p : Program} {l : Launch} {e : Env} {s : State} {m : MethodId} {below : List Frame} {meth : Method} {c : Code} {b L : Nat} {xs : Nat → Int32} {D : va_G} {cA : Nat → ClassId} {ad ad2 : Nat → Nat} {M N : Mm} {H : Heap} {locs : List Loc} {ls : Array Slot} {j : Nat} (C0 : lw_At p s m meth c b L xs) (hL : L ≤ 3072) (hK : KX D cA s) (hj : j + 6 ≤ L) (hR : Rel M N) (hX : lx_W D cA ad ad2 M N (lx_A s) s.heap H locs) (hl : lv_has ls 4 [(3, .int (nI j)), (2, .ref (ad2 0)), (1, .ref (ad 224)), (0, .ref b)]) (kk : lx_K p l e s m below meth c D cA b j) : W p l e room_1 s m #[Value.ref b] below meth c H locs 600000 7302250 (lw_Z below #[Value.ref b] s) (F0 m 792 ls []) := by
  obtain ⟨hx, hb, hr0, hml, hown, hts0, hXs, hbl, hlocks, hgv⟩ := C0
  have hts : ∀ w ∈ wsL_law, w.before #[Value.ref b] s = true := fun w h => hts0 w (wsL_law_in w h)
  obtain ⟨r, r1, r2⟩ := s_total (xs (j + 1)) hR
  refine lv_aload_n hx hb dL_law_792 rfl (lv_at hl 2 rfl) ?_
  refine lx_arg (k := 1) hx hb hXs hbl hX.1.2.2 hl (by omega) hL (by decide) dL_law_793 dL_law_794 dL_law_795 dL_law_796 dL_law_797 ?_
  refine lx_xi (va_runV (As := [.int (xs (j + 1))]) (rest := []) ⟨hx, hb, hml, hown, hts⟩ (c_X10_total l D cA ad M (xs (j + 1)) r1) (cwV 1 hts gL_law_X10_total rfl rfl rfl (by decide +kernel) ⟨(Nat.le_of_ble_eq_true rfl), (Nat.le_of_ble_eq_true rfl)⟩) (xpreV hK hX.1 (k := 224) rfl (by decide) rfl) rfl rfl hl.1 rfl (lv_room (Nat.le_of_ble_eq_true rfl)) dL_law_798 ⟨(Nat.le_of_ble_eq_true rfl), (Nat.le_of_ble_eq_true rfl)⟩) hX (fun ad1 H locs had hX => ?_)
  rw [show ad1 = ad from had] at hX
  refine lv_aload_n hx hb dL_law_801 rfl (lv_at hl 1 rfl) ?_
  refine lx_arg (k := 1) hx hb hXs hbl hX.1.2.2 hl (by omega) hL (by decide) dL_law_802 dL_law_803 dL_law_804 dL_law_805 dL_law_806 ?_
  refine lx_yi (va_runV (As := [.int (xs (j + 1))]) (rest := [.int r]) ⟨hx, hb, hml, hown, hts⟩ (c_X11_total l D cA ad2 N (xs (j + 1)) r2) (cwV 1 hts gL_law_X11_total rfl rfl rfl (by decide +kernel) ⟨(Nat.le_of_ble_eq_true rfl), (Nat.le_of_ble_eq_true rfl)⟩) (xpreV hK hX.2.1 (k := 0) rfl (by decide) rfl) rfl rfl hl.1 rfl (lv_room (Nat.le_of_ble_eq_true rfl)) dL_law_807 ⟨(Nat.le_of_ble_eq_true rfl), (Nat.le_of_ble_eq_true rfl)⟩) hX (fun H locs hX => ?_)
  refine lv_icmp_eq (tgt := 976) hx hb dL_law_810 (by decide) (fun _ => ?_) (fun c1 => absurd rfl c1)
  exact kk ad ad2 M N H locs ls hR hX hl
set_option maxHeartbeats 4000000 in
set_option maxRecDepth 100000 in
/-- velocity -/
theorem law_25 {p : Program} {l : Launch} {e : Env} {s : State} {m : MethodId} {below : List Frame} {meth : Method} {c : Code} {b L : Nat} {xs : Nat → Int32} {D : va_G} {cA : Nat → ClassId} {ad ad2 : Nat → Nat} {M N : Mm} {H : Heap} {locs : List Loc} {ls : Array Slot} {j : Nat} (C0 : lw_At p s m meth c b L xs) (hL : L ≤ 3072) (hK : KX D cA s) (hj : j + 6 ≤ L) (hR : Rel M N) (hX : lx_W D cA ad ad2 M N (lx_A s) s.heap H locs) (hl : lv_has ls 4 [(3, .int (nI j)), (2, .ref (ad2 0)), (1, .ref (ad 224)), (0, .ref b)]) (kk : lx_K p l e s m below meth c D cA b j) : W p l e room_1 s m #[Value.ref b] below meth c H locs 600000 7302250 (lw_Z below #[Value.ref b] s) (F0 m 815 ls []) := by
  obtain ⟨hx, hb, hr0, hml, hown, hts0, hXs, hbl, hlocks, hgv⟩ := C0
  have hts : ∀ w ∈ wsL_law, w.before #[Value.ref b] s = true := fun w h => hts0 w (wsL_law_in w h)
  obtain ⟨r, r1, r2⟩ := s_velocity (xs (j + 1)) (xs (j + 2)) (xs (j + 3)) hR
  refine lv_aload_n hx hb dL_law_815 rfl (lv_at hl 2 rfl) ?_
  refine lx_arg (k := 1) hx hb hXs hbl hX.1.2.2 hl (by omega) hL (by decide) dL_law_816 dL_law_817 dL_law_818 dL_law_819 dL_law_820 ?_
  refine lx_arg (k := 2) hx hb hXs hbl hX.1.2.2 hl (by omega) hL (by decide) dL_law_821 dL_law_822 dL_law_823 dL_law_824 dL_law_825 ?_
  refine lx_arg (k := 3) hx hb hXs hbl hX.1.2.2 hl (by omega) hL (by decide) dL_law_826 dL_law_827 dL_law_828 dL_law_829 dL_law_830 ?_
  refine lx_xi (va_runV (As := [.int (xs (j + 1)), .int (xs (j + 2)), .int (xs (j + 3))]) (rest := []) ⟨hx, hb, hml, hown, hts⟩ (c_X10_velocity l D cA ad M (xs (j + 1)) (xs (j + 2)) (xs (j + 3)) r1) (cwV 3 hts gL_law_X10_velocity rfl rfl rfl (by decide +kernel) ⟨(Nat.le_of_ble_eq_true rfl), (Nat.le_of_ble_eq_true rfl)⟩) (xpreV hK hX.1 (k := 224) rfl (by decide) rfl) rfl rfl hl.1 rfl (lv_room (Nat.le_of_ble_eq_true rfl)) dL_law_831 ⟨(Nat.le_of_ble_eq_true rfl), (Nat.le_of_ble_eq_true rfl)⟩) hX (fun ad1 H locs had hX => ?_)
  rw [show ad1 = ad from had] at hX
  refine lv_aload_n hx hb dL_law_834 rfl (lv_at hl 1 rfl) ?_
  refine lx_arg (k := 1) hx hb hXs hbl hX.1.2.2 hl (by omega) hL (by decide) dL_law_835 dL_law_836 dL_law_837 dL_law_838 dL_law_839 ?_
  refine lx_arg (k := 2) hx hb hXs hbl hX.1.2.2 hl (by omega) hL (by decide) dL_law_840 dL_law_841 dL_law_842 dL_law_843 dL_law_844 ?_
  refine lx_arg (k := 3) hx hb hXs hbl hX.1.2.2 hl (by omega) hL (by decide) dL_law_845 dL_law_846 dL_law_847 dL_law_848 dL_law_849 ?_
  refine lx_yi (va_runV (As := [.int (xs (j + 1)), .int (xs (j + 2)), .int (xs (j + 3))]) (rest := [.int r]) ⟨hx, hb, hml, hown, hts⟩ (c_X11_velocity l D cA ad2 N (xs (j + 1)) (xs (j + 2)) (xs (j + 3)) r2) (cwV 3 hts gL_law_X11_velocity rfl rfl rfl (by decide +kernel) ⟨(Nat.le_of_ble_eq_true rfl), (Nat.le_of_ble_eq_true rfl)⟩) (xpreV hK hX.2.1 (k := 0) rfl (by decide) rfl) rfl rfl hl.1 rfl (lv_room (Nat.le_of_ble_eq_true rfl)) dL_law_850 ⟨(Nat.le_of_ble_eq_true rfl), (Nat.le_of_ble_eq_true rfl)⟩) hX (fun H locs hX => ?_)
  refine lv_icmp_eq (tgt := 976) hx hb dL_law_853 (by decide) (fun _ => ?_) (fun c1 => absurd rfl c1)
  exact kk ad ad2 M N H locs ls hR hX hl
set_option maxHeartbeats 4000000 in
set_option maxRecDepth 100000 in
/-- ideal -/
theorem law_26 {p : Program} {l : Launch} {e : Env} {s : State} {m : MethodId} {below : List Frame} {meth : Method} {c : Code} {b L : Nat} {xs : Nat → Int32} {D : va_G} {cA : Nat → ClassId} {ad ad2 : Nat → Nat} {M N : Mm} {H : Heap} {locs : List Loc} {ls : Array Slot} {j : Nat} (C0 : lw_At p s m meth c b L xs) (hL : L ≤ 3072) (hK : KX D cA s) (hj : j + 6 ≤ L) (hR : Rel M N) (hX : lx_W D cA ad ad2 M N (lx_A s) s.heap H locs) (hl : lv_has ls 4 [(3, .int (nI j)), (2, .ref (ad2 0)), (1, .ref (ad 224)), (0, .ref b)]) (kk : lx_K p l e s m below meth c D cA b j) : W p l e room_1 s m #[Value.ref b] below meth c H locs 600000 7302250 (lw_Z below #[Value.ref b] s) (F0 m 858 ls []) := by
  obtain ⟨hx, hb, hr0, hml, hown, hts0, hXs, hbl, hlocks, hgv⟩ := C0
  have hts : ∀ w ∈ wsL_law, w.before #[Value.ref b] s = true := fun w h => hts0 w (wsL_law_in w h)
  obtain ⟨v, ev⟩ : ∃ v : Int32, v = if xs (j + 4) = 0 then 0 else 1 := ⟨_, rfl⟩
  obtain ⟨r, r1, r2⟩ := s_ideal (xs (j + 1)) (xs (j + 2)) (xs (j + 3)) v hR
  refine lv_aload_n hx hb dL_law_858 rfl (lv_at hl 2 rfl) ?_
  refine lx_arg (k := 1) hx hb hXs hbl hX.1.2.2 hl (by omega) hL (by decide) dL_law_859 dL_law_860 dL_law_861 dL_law_862 dL_law_863 ?_
  refine lx_arg (k := 2) hx hb hXs hbl hX.1.2.2 hl (by omega) hL (by decide) dL_law_864 dL_law_865 dL_law_866 dL_law_867 dL_law_868 ?_
  refine lx_arg (k := 3) hx hb hXs hbl hX.1.2.2 hl (by omega) hL (by decide) dL_law_869 dL_law_870 dL_law_871 dL_law_872 dL_law_873 ?_
  refine lx_arg (k := 4) hx hb hXs hbl hX.1.2.2 hl (by omega) hL (by decide) dL_law_874 dL_law_875 dL_law_876 dL_law_877 dL_law_878 ?_
  refine lx_bool hx hb ev dL_law_879 dL_law_882 dL_law_883 dL_law_886 ?_
  refine lx_xi (va_runV (As := [.int (xs (j + 1)), .int (xs (j + 2)), .int (xs (j + 3)), .int v]) (rest := []) ⟨hx, hb, hml, hown, hts⟩ (c_X10_ideal l D cA ad M (xs (j + 1)) (xs (j + 2)) (xs (j + 3)) v r1) (cwV 4 hts gL_law_X10_ideal rfl rfl rfl (by decide +kernel) ⟨(Nat.le_of_ble_eq_true rfl), (Nat.le_of_ble_eq_true rfl)⟩) (xpreV hK hX.1 (k := 224) rfl (by decide) rfl) rfl rfl hl.1 rfl (lv_room (Nat.le_of_ble_eq_true rfl)) dL_law_887 ⟨(Nat.le_of_ble_eq_true rfl), (Nat.le_of_ble_eq_true rfl)⟩) hX (fun ad1 H locs had hX => ?_)
  rw [show ad1 = ad from had] at hX
  refine lv_aload_n hx hb dL_law_890 rfl (lv_at hl 1 rfl) ?_
  refine lx_arg (k := 1) hx hb hXs hbl hX.1.2.2 hl (by omega) hL (by decide) dL_law_891 dL_law_892 dL_law_893 dL_law_894 dL_law_895 ?_
  refine lx_arg (k := 2) hx hb hXs hbl hX.1.2.2 hl (by omega) hL (by decide) dL_law_896 dL_law_897 dL_law_898 dL_law_899 dL_law_900 ?_
  refine lx_arg (k := 3) hx hb hXs hbl hX.1.2.2 hl (by omega) hL (by decide) dL_law_901 dL_law_902 dL_law_903 dL_law_904 dL_law_905 ?_
  refine lx_arg (k := 4) hx hb hXs hbl hX.1.2.2 hl (by omega) hL (by decide) dL_law_906 dL_law_907 dL_law_908 dL_law_909 dL_law_910 ?_
  refine lx_bool hx hb ev dL_law_911 dL_law_914 dL_law_915 dL_law_918 ?_
  refine lx_yi (va_runV (As := [.int (xs (j + 1)), .int (xs (j + 2)), .int (xs (j + 3)), .int v]) (rest := [.int r]) ⟨hx, hb, hml, hown, hts⟩ (c_X11_ideal l D cA ad2 N (xs (j + 1)) (xs (j + 2)) (xs (j + 3)) v r2) (cwV 4 hts gL_law_X11_ideal rfl rfl rfl (by decide +kernel) ⟨(Nat.le_of_ble_eq_true rfl), (Nat.le_of_ble_eq_true rfl)⟩) (xpreV hK hX.2.1 (k := 0) rfl (by decide) rfl) rfl rfl hl.1 rfl (lv_room (Nat.le_of_ble_eq_true rfl)) dL_law_919 ⟨(Nat.le_of_ble_eq_true rfl), (Nat.le_of_ble_eq_true rfl)⟩) hX (fun H locs hX => ?_)
  refine lv_icmp_eq (tgt := 976) hx hb dL_law_922 (by decide) (fun _ => ?_) (fun c1 => absurd rfl c1)
  exact kk ad ad2 M N H locs ls hR hX hl
set_option maxHeartbeats 4000000 in
set_option maxRecDepth 100000 in
/-- wouldBe -/
theorem law_27 {p : Program} {l : Launch} {e : Env} {s : State} {m : MethodId} {below : List Frame} {meth : Method} {c : Code} {b L : Nat} {xs : Nat → Int32} {D : va_G} {cA : Nat → ClassId} {ad ad2 : Nat → Nat} {M N : Mm} {H : Heap} {locs : List Loc} {ls : Array Slot} {j : Nat} (C0 : lw_At p s m meth c b L xs) (hL : L ≤ 3072) (hK : KX D cA s) (hj : j + 6 ≤ L) (hR : Rel M N) (hX : lx_W D cA ad ad2 M N (lx_A s) s.heap H locs) (hl : lv_has ls 4 [(3, .int (nI j)), (2, .ref (ad2 0)), (1, .ref (ad 224)), (0, .ref b)]) (kk : lx_K p l e s m below meth c D cA b j) : W p l e room_1 s m #[Value.ref b] below meth c H locs 600000 7302250 (lw_Z below #[Value.ref b] s) (F0 m 927 ls []) := by
  obtain ⟨hx, hb, hr0, hml, hown, hts0, hXs, hbl, hlocks, hgv⟩ := C0
  have hts : ∀ w ∈ wsL_law, w.before #[Value.ref b] s = true := fun w h => hts0 w (wsL_law_in w h)
  obtain ⟨r, M2, N2, r1, r2, hR2⟩ := s_wouldBe  hR
  refine lv_aload_n hx hb dL_law_927 rfl (lv_at hl 2 rfl) ?_
  refine lx_xi (va_runV (As := []) (rest := []) ⟨hx, hb, hml, hown, hts⟩ (c_X10_wouldBe l D cA ad M r1) (cwV 0 hts gL_law_X10_wouldBe rfl rfl rfl (by decide +kernel) ⟨(Nat.le_of_ble_eq_true rfl), (Nat.le_of_ble_eq_true rfl)⟩) (xpreV hK hX.1 (k := 224) rfl (by decide) rfl) rfl rfl hl.1 rfl (lv_room (Nat.le_of_ble_eq_true rfl)) dL_law_928 ⟨(Nat.le_of_ble_eq_true rfl), (Nat.le_of_ble_eq_true rfl)⟩) hX (fun ad1 H locs had hX => ?_)
  rw [show ad1 = ad from had] at hX
  refine lv_aload_n hx hb dL_law_931 rfl (lv_at hl 1 rfl) ?_
  refine lx_yi (va_runV (As := []) (rest := [.int r]) ⟨hx, hb, hml, hown, hts⟩ (c_X11_wouldBe l D cA ad2 N r2) (cwV 0 hts gL_law_X11_wouldBe rfl rfl rfl (by decide +kernel) ⟨(Nat.le_of_ble_eq_true rfl), (Nat.le_of_ble_eq_true rfl)⟩) (xpreV hK hX.2.1 (k := 0) rfl (by decide) rfl) rfl rfl hl.1 rfl (lv_room (Nat.le_of_ble_eq_true rfl)) dL_law_932 ⟨(Nat.le_of_ble_eq_true rfl), (Nat.le_of_ble_eq_true rfl)⟩) hX (fun H locs hX => ?_)
  refine lv_icmp_eq (tgt := 976) hx hb dL_law_935 (by decide) (fun _ => ?_) (fun c1 => absurd rfl c1)
  exact kk ad ad2 M2 N2 H locs ls hR2 hX hl
set_option maxHeartbeats 4000000 in
set_option maxRecDepth 100000 in
/-- wouldBecome -/
theorem law_28 {p : Program} {l : Launch} {e : Env} {s : State} {m : MethodId} {below : List Frame} {meth : Method} {c : Code} {b L : Nat} {xs : Nat → Int32} {D : va_G} {cA : Nat → ClassId} {ad ad2 : Nat → Nat} {M N : Mm} {H : Heap} {locs : List Loc} {ls : Array Slot} {j : Nat} (C0 : lw_At p s m meth c b L xs) (hL : L ≤ 3072) (hK : KX D cA s) (hj : j + 6 ≤ L) (hR : Rel M N) (hX : lx_W D cA ad ad2 M N (lx_A s) s.heap H locs) (hl : lv_has ls 4 [(3, .int (nI j)), (2, .ref (ad2 0)), (1, .ref (ad 224)), (0, .ref b)]) (kk : lx_K p l e s m below meth c D cA b j) : W p l e room_1 s m #[Value.ref b] below meth c H locs 600000 7302250 (lw_Z below #[Value.ref b] s) (F0 m 940 ls []) := by
  obtain ⟨hx, hb, hr0, hml, hown, hts0, hXs, hbl, hlocks, hgv⟩ := C0
  have hts : ∀ w ∈ wsL_law, w.before #[Value.ref b] s = true := fun w h => hts0 w (wsL_law_in w h)
  obtain ⟨r, M2, N2, r1, r2, hR2⟩ := s_wouldBecome (xs (j + 1)) hR
  refine lv_aload_n hx hb dL_law_940 rfl (lv_at hl 2 rfl) ?_
  refine lx_arg (k := 1) hx hb hXs hbl hX.1.2.2 hl (by omega) hL (by decide) dL_law_941 dL_law_942 dL_law_943 dL_law_944 dL_law_945 ?_
  refine lx_xi (va_runV (As := [.int (xs (j + 1))]) (rest := []) ⟨hx, hb, hml, hown, hts⟩ (c_X10_wouldBecome l D cA ad M (xs (j + 1)) r1) (cwV 1 hts gL_law_X10_wouldBecome rfl rfl rfl (by decide +kernel) ⟨(Nat.le_of_ble_eq_true rfl), (Nat.le_of_ble_eq_true rfl)⟩) (xpreV hK hX.1 (k := 224) rfl (by decide) rfl) rfl rfl hl.1 rfl (lv_room (Nat.le_of_ble_eq_true rfl)) dL_law_946 ⟨(Nat.le_of_ble_eq_true rfl), (Nat.le_of_ble_eq_true rfl)⟩) hX (fun ad1 H locs had hX => ?_)
  rw [show ad1 = ad from had] at hX
  refine lv_aload_n hx hb dL_law_949 rfl (lv_at hl 1 rfl) ?_
  refine lx_arg (k := 1) hx hb hXs hbl hX.1.2.2 hl (by omega) hL (by decide) dL_law_950 dL_law_951 dL_law_952 dL_law_953 dL_law_954 ?_
  refine lx_yi (va_runV (As := [.int (xs (j + 1))]) (rest := [.int r]) ⟨hx, hb, hml, hown, hts⟩ (c_X11_wouldBecome l D cA ad2 N (xs (j + 1)) r2) (cwV 1 hts gL_law_X11_wouldBecome rfl rfl rfl (by decide +kernel) ⟨(Nat.le_of_ble_eq_true rfl), (Nat.le_of_ble_eq_true rfl)⟩) (xpreV hK hX.2.1 (k := 0) rfl (by decide) rfl) rfl rfl hl.1 rfl (lv_room (Nat.le_of_ble_eq_true rfl)) dL_law_955 ⟨(Nat.le_of_ble_eq_true rfl), (Nat.le_of_ble_eq_true rfl)⟩) hX (fun H locs hX => ?_)
  refine lv_icmp_eq (tgt := 976) hx hb dL_law_958 (by decide) (fun _ => ?_) (fun c1 => absurd rfl c1)
  exact kk ad ad2 M2 N2 H locs ls hR2 hX hl
set_option maxHeartbeats 4000000 in
set_option maxRecDepth 100000 in
/-- skipsNeeded -/
theorem law_29 {p : Program} {l : Launch} {e : Env} {s : State} {m : MethodId} {below : List Frame} {meth : Method} {c : Code} {b L : Nat} {xs : Nat → Int32} {D : va_G} {cA : Nat → ClassId} {ad ad2 : Nat → Nat} {M N : Mm} {H : Heap} {locs : List Loc} {ls : Array Slot} {j : Nat} (C0 : lw_At p s m meth c b L xs) (hL : L ≤ 3072) (hK : KX D cA s) (hj : j + 6 ≤ L) (hR : Rel M N) (hX : lx_W D cA ad ad2 M N (lx_A s) s.heap H locs) (hl : lv_has ls 4 [(3, .int (nI j)), (2, .ref (ad2 0)), (1, .ref (ad 224)), (0, .ref b)]) (kk : lx_K p l e s m below meth c D cA b j) : W p l e room_1 s m #[Value.ref b] below meth c H locs 600000 7302250 (lw_Z below #[Value.ref b] s) (F0 m 963 ls []) := by
  obtain ⟨hx, hb, hr0, hml, hown, hts0, hXs, hbl, hlocks, hgv⟩ := C0
  have hts : ∀ w ∈ wsL_law, w.before #[Value.ref b] s = true := fun w h => hts0 w (wsL_law_in w h)
  obtain ⟨r, M2, N2, r1, r2, hR2⟩ := s_skipsNeeded  hR
  refine lv_aload_n hx hb dL_law_963 rfl (lv_at hl 2 rfl) ?_
  refine lx_xi (va_runV (As := []) (rest := []) ⟨hx, hb, hml, hown, hts⟩ (c_X10_skipsNeeded l D cA ad M r1) (cwV 0 hts gL_law_X10_skipsNeeded rfl rfl rfl (by decide +kernel) ⟨(Nat.le_of_ble_eq_true rfl), (Nat.le_of_ble_eq_true rfl)⟩) (xpreV hK hX.1 (k := 224) rfl (by decide) rfl) rfl rfl hl.1 rfl (lv_room (Nat.le_of_ble_eq_true rfl)) dL_law_964 ⟨(Nat.le_of_ble_eq_true rfl), (Nat.le_of_ble_eq_true rfl)⟩) hX (fun ad1 H locs had hX => ?_)
  rw [show ad1 = ad from had] at hX
  refine lv_aload_n hx hb dL_law_967 rfl (lv_at hl 1 rfl) ?_
  refine lx_yi (va_runV (As := []) (rest := [.int r]) ⟨hx, hb, hml, hown, hts⟩ (c_X11_skipsNeeded l D cA ad2 N r2) (cwV 0 hts gL_law_X11_skipsNeeded rfl rfl rfl (by decide +kernel) ⟨(Nat.le_of_ble_eq_true rfl), (Nat.le_of_ble_eq_true rfl)⟩) (xpreV hK hX.2.1 (k := 0) rfl (by decide) rfl) rfl rfl hl.1 rfl (lv_room (Nat.le_of_ble_eq_true rfl)) dL_law_968 ⟨(Nat.le_of_ble_eq_true rfl), (Nat.le_of_ble_eq_true rfl)⟩) hX (fun H locs hX => ?_)
  refine lv_icmp_eq (tgt := 976) hx hb dL_law_971 (by decide) (fun _ => ?_) (fun c1 => absurd rfl c1)
  exact kk ad ad2 M2 N2 H locs ls hR2 hX hl

/-! THE LAW, 9: its loop -/
theorem lx_of {D : va_G} {cA : Nat → ClassId} {ad ad2 : Nat → Nat} {M N : Mm} {A : Nat → Prop} {H0 H : Heap} {locs : List Loc} (h : ic_W D (XW true cA ad M ++ XW false cA ad2 N) A H0 H locs) : lx_W D cA ad ad2 M N A H0 H locs := by
  have lf : ∀ (k : Nat) (q : Nat × va_E), (XW true cA ad M)[k]? = some q → (XW true cA ad M ++ XW false cA ad2 N)[k]? = some q := fun k q hq => by
    rw [List.getElem?_append_left (List.getElem?_eq_some_iff.mp hq).1]
    exact hq
  have rg : ∀ (k : Nat) (q : Nat × va_E), (XW false cA ad2 N)[k]? = some q → (XW true cA ad M ++ XW false cA ad2 N)[238 + k]? = some q := fun k q hq => by
    rw [List.getElem?_append_right (by rw [XW_len]; show 238 ≤ _; omega), XW_len]
    show (XW false cA ad2 N)[238 + k - 238]? = some q
    rw [show 238 + k - 238 = k by omega]
    exact hq
  refine ⟨⟨fun k q hq => h.1 k q (lf k q hq), ⟨fun i j x y hi hj e => h.2.1.1 i j x y (lf i x hi) (lf j y hj) e, fun k q hq => h.2.1.2 k q (lf k q hq)⟩, h.2.2⟩, ⟨fun k q hq => h.1 _ q (rg k q hq), ⟨fun i j x y hi hj e => ?_, fun k q hq => h.2.1.2 _ q (rg k q hq)⟩, h.2.2⟩, fun i hi j hj e => ?_⟩
  · have := h.2.1.1 _ _ x y (rg i x hi) (rg j y hj) e
    omega
  · have := h.2.1.1 _ _ _ _ (lf i _ (XW_at (show i < NS true from hi))) (rg j _ (XW_at (show j < NS false from hj))) e
    omega
theorem lx_gt {L j : Nat} (hL : L ≤ 3072) (hj : j ≤ 4000) : nI L - 6 < nI j ↔ L < j + 6 := by
  have e1 : (nI L).toInt = (L : Int) := nI_toInt (by omega)
  have e2 : (nI j).toInt = (j : Int) := nI_toInt (by omega)
  have e3 : (6 : Int32).toInt = 6 := rfl
  rw [i_lt, fb_subI (by omega) (by omega), e1, e2, e3]
  omega
set_option maxHeartbeats 4000000 in
set_option maxRecDepth 100000 in
theorem law_loop {p : Program} {l : Launch} {e : Env} {s : State} {m : MethodId} {below : List Frame} {meth : Method} {c : Code} {b L : Nat} {xs : Nat → Int32} {D : va_G} {cA : Nat → ClassId} {tL tH : Nat} (C0 : lw_At p s m meth c b L xs) (hL : L ≤ 3072) (hK : KX D cA s) (hSt : StX tL tH (lx_A s) s s.heap) :
    ∀ (n j : Nat) (ad ad2 : Nat → Nat) (M N : Mm) (H : Heap) (locs : List Loc) (ls : Array Slot), L + 6 ≤ j + n → j ≤ L + 6 → Rel M N → lx_W D cA ad ad2 M N (lx_A s) s.heap H locs → lv_has ls 4 [(3, .int (nI j)), (2, .ref (ad2 0)), (1, .ref (ad 224)), (0, .ref b)] → W p l e room_1 s m #[Value.ref b] below meth c H locs 600000 7302250 (lw_Z below #[Value.ref b] s) (F0 m 18 ls []) := by
  obtain ⟨hx, hb, hr0, hml, hown, hts0, hXs, hbl, hlocks, hgv⟩ := id C0
  intro n
  induction n with
  | zero =>
    intro j ad ad2 M N H locs ls h1 h2 hR hX hl
    refine lv_iload_n hx hb dL_law_18 rfl (lv_at hl 0 rfl) ?_
    refine lv_aload_n hx hb dL_law_19 rfl (lv_at hl 3 rfl) ?_
    refine va_slen hx hb hXs hbl (Nat.not_le.mpr hbl) hX.1.2.2 dL_law_20 ?_
    refine lv_bipush (v := 6) hx hb dL_law_21 (by decide) ?_
    refine lv_isub hx hb dL_law_23 ?_
    refine lv_icmp_gt (tgt := 982) hx hb dL_law_24 (by decide) (fun _ => ?_) (fun c1 => absurd ((lx_gt (by omega) (by omega)).mpr (by omega)) c1)
    refine lv_iconst (v := 1) hx hb dL_law_982 (by decide) ?_
    refine va_forget (fun q hq => hX.1.2.2.2.2 q hq) ?_
    exact lw_ret hx hb hr0 hlocks dL_law_983
  | succ n ih =>
    intro j ad ad2 M N H locs ls h1 h2 hR hX hl
    refine lv_iload_n hx hb dL_law_18 rfl (lv_at hl 0 rfl) ?_
    refine lv_aload_n hx hb dL_law_19 rfl (lv_at hl 3 rfl) ?_
    refine va_slen hx hb hXs hbl (Nat.not_le.mpr hbl) hX.1.2.2 dL_law_20 ?_
    refine lv_bipush (v := 6) hx hb dL_law_21 (by decide) ?_
    refine lv_isub hx hb dL_law_23 ?_
    refine lv_icmp_gt (tgt := 982) hx hb dL_law_24 (by decide) (fun _ => ?_) (fun c1 => ?_)
    · refine lv_iconst (v := 1) hx hb dL_law_982 (by decide) ?_
      refine va_forget (fun q hq => hX.1.2.2.2.2 q hq) ?_
      exact lw_ret hx hb hr0 hlocks dL_law_983
    · have hj : j + 6 ≤ L := by
        rcases Nat.lt_or_ge L (j + 6) with q | q
        · exact absurd ((lx_gt (by omega) (by omega)).mpr q) c1
        · exact q
      have kk : lx_K p l e s m below meth c D cA b j := by
        intro ad ad2 M N H locs ls hR hX hl
        refine lv_iinc (v := nI (j + 6)) (lv' := [(3, .int (nI (j + 6))), (2, .ref (ad2 0)), (1, .ref (ad 224)), (0, .ref b)]) hx hb dL_law_976 hl (k := 0) rfl (by rw [show Int32.ofInt 6 = nI 6 by decide, nI_add]) (by decide) rfl (fun ls hl => ?_)
        refine lv_goto (tgt := 18) hx hb dL_law_979 (by decide) ?_
        exact ih (j + 6) ad ad2 M N H locs ls (by omega) (by omega) hR hX hl
      refine lv_aload_n hx hb dL_law_27 rfl (lv_at hl 3 rfl) ?_
      refine lv_iload_n hx hb dL_law_28 rfl (lv_at hl 0 rfl) ?_
      refine va_sld hx hb hXs hbl (Nat.not_le.mpr hbl) hX.1.2.2 (vp_in_nI (show j < L by omega) (by omega)) dL_law_29 ?_
      refine lv_bipush (v := 31) hx hb dL_law_30 (by decide) ?_
      refine lv_iand hx hb dL_law_32 ?_
      obtain ⟨k, hk, ek⟩ := lx_and (xs (nI j).toNatClampNeg)
      rw [ek]
      match k, hk with
      | 0, _ =>
        refine lv_tableIn (tgt := 168) hx hb dL_law_33 (by decide +kernel) (by decide +kernel) (off := 135) (by decide +kernel) (by decide) ?_
        exact law_0 C0 hL hK hj hR hX hl kk
      | 1, _ =>
        refine lv_tableIn (tgt := 231) hx hb dL_law_33 (by decide +kernel) (by decide +kernel) (off := 198) (by decide +kernel) (by decide) ?_
        exact law_1 C0 hL hK hj hR hX hl kk
      | 2, _ =>
        refine lv_tableIn (tgt := 264) hx hb dL_law_33 (by decide +kernel) (by decide +kernel) (off := 231) (by decide +kernel) (by decide) ?_
        exact law_2 C0 hL hK hj hR hX hl kk
      | 3, _ =>
        refine lv_tableIn (tgt := 297) hx hb dL_law_33 (by decide +kernel) (by decide +kernel) (off := 264) (by decide +kernel) (by decide) ?_
        exact law_3 C0 hL hK hj hR hX hl kk
      | 4, _ =>
        refine lv_tableIn (tgt := 320) hx hb dL_law_33 (by decide +kernel) (by decide +kernel) (off := 287) (by decide +kernel) (by decide) ?_
        exact law_4 hSt C0 hL hK hj hR hX hl kk
      | 5, _ =>
        refine lv_tableIn (tgt := 353) hx hb dL_law_33 (by decide +kernel) (by decide +kernel) (off := 320) (by decide +kernel) (by decide) ?_
        exact law_5 C0 hL hK hj hR hX hl kk
      | 6, _ =>
        refine lv_tableIn (tgt := 406) hx hb dL_law_33 (by decide +kernel) (by decide +kernel) (off := 373) (by decide +kernel) (by decide) ?_
        exact law_6 C0 hL hK hj hR hX hl kk
      | 7, _ =>
        refine lv_tableIn (tgt := 419) hx hb dL_law_33 (by decide +kernel) (by decide +kernel) (off := 386) (by decide +kernel) (by decide) ?_
        exact law_7 C0 hL hK hj hR hX hl kk
      | 8, _ =>
        refine lv_tableIn (tgt := 432) hx hb dL_law_33 (by decide +kernel) (by decide +kernel) (off := 399) (by decide +kernel) (by decide) ?_
        exact law_8 C0 hL hK hj hR hX hl kk
      | 9, _ =>
        refine lv_tableIn (tgt := 455) hx hb dL_law_33 (by decide +kernel) (by decide +kernel) (off := 422) (by decide +kernel) (by decide) ?_
        exact law_9 C0 hL hK hj hR hX hl kk
      | 10, _ =>
        refine lv_tableIn (tgt := 478) hx hb dL_law_33 (by decide +kernel) (by decide +kernel) (off := 445) (by decide +kernel) (by decide) ?_
        exact law_10 C0 hL hK hj hR hX hl kk
      | 11, _ =>
        refine lv_tableIn (tgt := 491) hx hb dL_law_33 (by decide +kernel) (by decide +kernel) (off := 458) (by decide +kernel) (by decide) ?_
        exact law_11 C0 hL hK hj hR hX hl kk
      | 12, _ =>
        refine lv_tableIn (tgt := 504) hx hb dL_law_33 (by decide +kernel) (by decide +kernel) (off := 471) (by decide +kernel) (by decide) ?_
        exact law_12 C0 hL hK hj hR hX hl kk
      | 13, _ =>
        refine lv_tableIn (tgt := 517) hx hb dL_law_33 (by decide +kernel) (by decide +kernel) (off := 484) (by decide +kernel) (by decide) ?_
        exact law_13 C0 hL hK hj hR hX hl kk
      | 14, _ =>
        refine lv_tableIn (tgt := 530) hx hb dL_law_33 (by decide +kernel) (by decide +kernel) (off := 497) (by decide +kernel) (by decide) ?_
        exact law_14 C0 hL hK hj hR hX hl kk
      | 15, _ =>
        refine lv_tableIn (tgt := 553) hx hb dL_law_33 (by decide +kernel) (by decide +kernel) (off := 520) (by decide +kernel) (by decide) ?_
        exact law_15 C0 hL hK hj hR hX hl kk
      | 16, _ =>
        refine lv_tableIn (tgt := 576) hx hb dL_law_33 (by decide +kernel) (by decide +kernel) (off := 543) (by decide +kernel) (by decide) ?_
        exact law_16 C0 hL hK hj hR hX hl kk
      | 17, _ =>
        refine lv_tableIn (tgt := 609) hx hb dL_law_33 (by decide +kernel) (by decide +kernel) (off := 576) (by decide +kernel) (by decide) ?_
        exact law_17 C0 hL hK hj hR hX hl kk
      | 18, _ =>
        refine lv_tableIn (tgt := 642) hx hb dL_law_33 (by decide +kernel) (by decide +kernel) (off := 609) (by decide +kernel) (by decide) ?_
        exact law_18 C0 hL hK hj hR hX hl kk
      | 19, _ =>
        refine lv_tableIn (tgt := 666) hx hb dL_law_33 (by decide +kernel) (by decide +kernel) (off := 633) (by decide +kernel) (by decide) ?_
        exact law_19 C0 hL hK hj hR hX hl kk
      | 20, _ =>
        refine lv_tableIn (tgt := 689) hx hb dL_law_33 (by decide +kernel) (by decide +kernel) (off := 656) (by decide +kernel) (by decide) ?_
        exact law_20 C0 hL hK hj hR hX hl kk
      | 21, _ =>
        refine lv_tableIn (tgt := 722) hx hb dL_law_33 (by decide +kernel) (by decide +kernel) (off := 689) (by decide +kernel) (by decide) ?_
        exact law_21 C0 hL hK hj hR hX hl kk
      | 22, _ =>
        refine lv_tableIn (tgt := 746) hx hb dL_law_33 (by decide +kernel) (by decide +kernel) (off := 713) (by decide +kernel) (by decide) ?_
        exact law_22 C0 hL hK hj hR hX hl kk
      | 23, _ =>
        refine lv_tableIn (tgt := 769) hx hb dL_law_33 (by decide +kernel) (by decide +kernel) (off := 736) (by decide +kernel) (by decide) ?_
        exact law_23 C0 hL hK hj hR hX hl kk
      | 24, _ =>
        refine lv_tableIn (tgt := 792) hx hb dL_law_33 (by decide +kernel) (by decide +kernel) (off := 759) (by decide +kernel) (by decide) ?_
        exact law_24 C0 hL hK hj hR hX hl kk
      | 25, _ =>
        refine lv_tableIn (tgt := 815) hx hb dL_law_33 (by decide +kernel) (by decide +kernel) (off := 782) (by decide +kernel) (by decide) ?_
        exact law_25 C0 hL hK hj hR hX hl kk
      | 26, _ =>
        refine lv_tableIn (tgt := 858) hx hb dL_law_33 (by decide +kernel) (by decide +kernel) (off := 825) (by decide +kernel) (by decide) ?_
        exact law_26 C0 hL hK hj hR hX hl kk
      | 27, _ =>
        refine lv_tableIn (tgt := 927) hx hb dL_law_33 (by decide +kernel) (by decide +kernel) (off := 894) (by decide +kernel) (by decide) ?_
        exact law_27 C0 hL hK hj hR hX hl kk
      | 28, _ =>
        refine lv_tableIn (tgt := 940) hx hb dL_law_33 (by decide +kernel) (by decide +kernel) (off := 907) (by decide +kernel) (by decide) ?_
        exact law_28 C0 hL hK hj hR hX hl kk
      | 29, _ =>
        refine lv_tableIn (tgt := 963) hx hb dL_law_33 (by decide +kernel) (by decide +kernel) (off := 930) (by decide +kernel) (by decide) ?_
        exact law_29 C0 hL hK hj hR hX hl kk
      | 30, _ =>
        refine lv_tableOut (tgt := 976) hx hb dL_law_33 (Or.inr (by decide +kernel)) (by decide) ?_
        exact kk ad ad2 M N H locs ls hR hX hl
      | 31, _ =>
        refine lv_tableOut (tgt := 976) hx hb dL_law_33 (Or.inr (by decide +kernel)) (by decide) ?_
        exact kk ad ad2 M N H locs ls hR hX hl
      | k + 32, hk => exact absurd hk (by omega)

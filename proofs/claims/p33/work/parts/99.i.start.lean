/-! THE LAW: what holds at its start, by gen_start.py -/
theorem lx_ar {s : State} {ty : FieldType} {args : Array Value} (h : (Cond.arrayClass ty).before args s = true) (hra : ∀ cI, s.vm.findClass ("[" ++ ty.toString) = some cI → va_RA s cI ty) : ∃ cI : ClassId, ArrOfT s cI ty ∧ va_RA s cI ty := by
  obtain ⟨cI, kA, comp, h1, h2, h3⟩ := Cond.arrayClass_spec h
  exact ⟨cI, fun N z => ⟨(fun k q => by cases q), kA, h2, comp, h3⟩, hra cI h1⟩
theorem lx_ao {s : State} {C : String} {args : Array Value} (h : (Cond.arrayOver (.object C)).before args s = true) : ∃ cI : ClassId, ArrOfT s cI (.object C) ∧ va_RA s cI (.object C) := by
  obtain ⟨comp, cI, k, h1, h2, h3, h4, h5⟩ := Cond.arrayOver_spec h
  exact ⟨cI, fun N z => ⟨(fun k q => by cases q), k, h3, comp, h4⟩, k, comp, h3, h4, h1, h5⟩
theorem ls_kl {p : Program} {s : State} {m : MethodId} {meth : Method} {c : Code} {b L : Nat} {xs : Nat → Int32} (C0 : lw_At p s m meth c b L xs) : ∃ D : va_G, ∀ (k : Nat) (q : vw_C), vwCl[k]? = some q → u_Kn s q.1 q.2.1 q.2.2 (D.1 k) (D.2 k) := by
  obtain ⟨hx, hb, hr0, hml, hown, hts0, hXs, hbl, hlocks, hgv⟩ := C0
  obtain ⟨c0, i0, k0⟩ := u_known (C := RX0) (T := TX0) (N := 8) (n := 8) hts0 (fun w h => wsL_law_in w (inlX0 w h)) (hts0 _ (wsL_law_in _ lawm_23))
  obtain ⟨c1, i1, k1⟩ := u_known (C := RX1) (T := TX1) (N := 2) (n := 2) hts0 (fun w h => wsL_law_in w (inlX1 w h)) (hts0 _ (wsL_law_in _ lawm_16))
  obtain ⟨c2, i2, k2⟩ := u_known (C := RX2) (T := TX2) (N := 11) (n := 11) hts0 (fun w h => wsL_law_in w (inlX2 w h)) (hts0 _ (wsL_law_in _ lawm_29))
  obtain ⟨c3, i3, k3⟩ := u_known (C := RX3) (T := TX3) (N := 16) (n := 16) hts0 (fun w h => wsL_law_in w (inlX3 w h)) (hts0 _ (wsL_law_in _ lawm_48))
  obtain ⟨c4, i4, k4⟩ := u_known (C := RX4) (T := TX4) (N := 3) (n := 3) hts0 (fun w h => wsL_law_in w (inlX4 w h)) (hts0 _ (wsL_law_in _ lawm_39))
  obtain ⟨c5, i5, k5⟩ := u_known (C := RX5) (T := TX5) (N := 6) (n := 6) hts0 (fun w h => wsL_law_in w (inlX5 w h)) (hts0 _ (wsL_law_in _ lawm_61))
  obtain ⟨c6, i6, k6⟩ := u_known (C := RX6) (T := TX6) (N := 2) (n := 2) hts0 (fun w h => wsL_law_in w (inlX6 w h)) (hts0 _ (wsL_law_in _ lawm_45))
  obtain ⟨c7, i7, k7⟩ := u_known (C := RX7) (T := TX7) (N := 4) (n := 4) hts0 (fun w h => wsL_law_in w (inlX7 w h)) (hts0 _ (wsL_law_in _ lawm_73))
  obtain ⟨c8, i8, k8⟩ := u_known (C := RX8) (T := TX8) (N := 10) (n := 10) hts0 (fun w h => wsL_law_in w (inlX8 w h)) (hts0 _ (wsL_law_in _ lawm_12))
  obtain ⟨c9, i9, k9⟩ := u_known (C := RX9) (T := TX9) (N := 2) (n := 2) hts0 (fun w h => wsL_law_in w (inlX9 w h)) (hts0 _ (wsL_law_in _ lawm_90))
  obtain ⟨c10, i10, k10⟩ := u_known (C := RX10) (T := TX10) (N := 7) (n := 7) hts0 (fun w h => wsL_law_in w (inlX10 w h)) (hts0 _ (wsL_law_in _ lawm_1))
  have key : ∀ k : Nat, ∃ z : ClassId × (Nat → Nat), ∀ q : vw_C, vwCl[k]? = some q → u_Kn s q.1 q.2.1 q.2.2 z.1 z.2 := by
    intro k
    match k with
    | 0 => exact ⟨(c0, i0), fun q hq => by cases hq; exact k0⟩
    | 1 => exact ⟨(c1, i1), fun q hq => by cases hq; exact k1⟩
    | 2 => exact ⟨(c2, i2), fun q hq => by cases hq; exact k2⟩
    | 3 => exact ⟨(c3, i3), fun q hq => by cases hq; exact k3⟩
    | 4 => exact ⟨(c4, i4), fun q hq => by cases hq; exact k4⟩
    | 5 => exact ⟨(c5, i5), fun q hq => by cases hq; exact k5⟩
    | 6 => exact ⟨(c6, i6), fun q hq => by cases hq; exact k6⟩
    | 7 => exact ⟨(c7, i7), fun q hq => by cases hq; exact k7⟩
    | 8 => exact ⟨(c8, i8), fun q hq => by cases hq; exact k8⟩
    | 9 => exact ⟨(c9, i9), fun q hq => by cases hq; exact k9⟩
    | 10 => exact ⟨(c10, i10), fun q hq => by cases hq; exact k10⟩
    | k + 11 => exact ⟨(c0, i0), fun q hq => by cases hq⟩
  obtain ⟨f, hf⟩ := Classical.axiomOfChoice key
  exact ⟨(fun k => (f k).1, fun k => (f k).2), fun k q hq => hf k q hq⟩
theorem ls_ky {p : Program} {s : State} {m : MethodId} {meth : Method} {c : Code} {b L : Nat} {xs : Nat → Int32} (C0 : lw_At p s m meth c b L xs) : ∃ (D : va_G) (cA : Nat → ClassId), ic_K D cA s := by
  obtain ⟨D, hD⟩ := ls_kl C0
  obtain ⟨hx, hb, hr0, hml, hown, hts0, hXs, hbl, hlocks, hgv⟩ := C0
  obtain ⟨a0, p0, q0⟩ := lx_ar (ty := .int) (hts0 _ (List.mem_append_right _ (List.mem_of_getElem? (i := 47) (by decide +kernel)))) (fun _ h => h)
  obtain ⟨a2, p2, q2⟩ := lx_ar (ty := .boolean) (hts0 _ (List.mem_append_right _ (List.mem_of_getElem? (i := 289) (by decide +kernel)))) (fun _ h => h)
  have o3 : (Cond.arrayOver (.object "TransitMeter$Path")).before #[Value.ref b] s = true := (hts0 _ (List.mem_append_right _ (List.mem_of_getElem? (i := 29) (by decide +kernel))))
  obtain ⟨a3, p3, q3⟩ := lx_ao o3
  have o4 : (Cond.arrayOver (.object "TransitMeter$Round")).before #[Value.ref b] s = true := (hts0 _ (List.mem_append_right _ (List.mem_of_getElem? (i := 55) (by decide +kernel))))
  obtain ⟨a4, p4, q4⟩ := lx_ao o4
  have o5 : (Cond.arrayOver (.object "TransitMeter$State")).before #[Value.ref b] s = true := (hts0 _ (List.mem_append_right _ (List.mem_of_getElem? (i := 260) (by decide +kernel))))
  obtain ⟨a5, p5, q5⟩ := lx_ao o5
  have hN : Nst s := ⟨va_Nw.of rfl (hts0 _ (List.mem_append_right _ (List.mem_of_getElem? (i := 32) (by decide +kernel)))), va_Nw.of rfl (hts0 _ (List.mem_append_right _ (List.mem_of_getElem? (i := 57) (by decide +kernel)))), va_Nw.of rfl (hts0 _ (List.mem_append_right _ (List.mem_of_getElem? (i := 102) (by decide +kernel)))), va_Nw.of rfl (hts0 _ (List.mem_append_right _ (List.mem_of_getElem? (i := 109) (by decide +kernel)))), va_Nw.of rfl (hts0 _ (List.mem_append_right _ (List.mem_of_getElem? (i := 272) (by decide +kernel)))), va_Nw.of rfl (hts0 _ (List.mem_append_right _ (List.mem_of_getElem? (i := 278) (by decide +kernel)))), va_Nw.of rfl (hts0 _ (List.mem_append_right _ (List.mem_of_getElem? (i := 311) (by decide +kernel)))), va_Nw.of rfl (hts0 _ (List.mem_append_right _ (List.mem_of_getElem? (i := 453) (by decide +kernel)))), va_Nw.of rfl (hts0 _ (List.mem_append_right _ (List.mem_of_getElem? (i := 476) (by decide +kernel)))), va_Nw.of rfl (hts0 _ (List.mem_append_right _ (List.mem_of_getElem? (i := 513) (by decide +kernel)))), va_Nw.of rfl (hts0 _ (List.mem_append_right _ (List.mem_of_getElem? (i := 532) (by decide +kernel)))), va_Nw.of rfl (hts0 _ (List.mem_append_right _ (List.mem_of_getElem? (i := 570) (by decide +kernel)))), va_Nw.of rfl (hts0 _ (List.mem_append_right _ (List.mem_of_getElem? (i := 581) (by decide +kernel)))), va_Nw.of rfl (hts0 _ (List.mem_append_right _ (List.mem_of_getElem? (i := 584) (by decide +kernel)))), va_Nw.of rfl (hts0 _ (List.mem_append_right _ (List.mem_of_getElem? (i := 595) (by decide +kernel)))), va_Nw.of rfl (hts0 _ (List.mem_append_right _ (List.mem_of_getElem? (i := 638) (by decide +kernel)))), va_Nw.of rfl (hts0 _ (List.mem_append_right _ (List.mem_of_getElem? (i := 652) (by decide +kernel)))), va_Nw.of rfl (hts0 _ (List.mem_append_right _ (List.mem_of_getElem? (i := 684) (by decide +kernel)))), va_Nw.of rfl (hts0 _ (List.mem_append_right _ (List.mem_of_getElem? (i := 685) (by decide +kernel)))), va_Nw.of rfl (hts0 _ (List.mem_append_right _ (List.mem_of_getElem? (i := 727) (by decide +kernel))))⟩
  refine ⟨D, fun i => if i = 0 then a0 else if i = 1 then a0 else if i = 2 then a2 else if i = 3 then a3 else if i = 4 then a4 else a5, ⟨⟨hD, fun k q hq => ?_⟩, hN⟩, va_AO.of o3, va_AO.of o4, va_AO.of o5⟩
  match k, hq with
  | 0, hq => cases hq; exact ⟨p0, q0⟩
  | 1, hq => cases hq; exact ⟨p0, q0⟩
  | 2, hq => cases hq; exact ⟨p2, q2⟩
  | 3, hq => cases hq; exact ⟨p3, q3⟩
  | 4, hq => cases hq; exact ⟨p4, q4⟩
  | 5, hq => cases hq; exact ⟨p5, q5⟩
  | k + 6, hq => cases hq
theorem ls_st {p : Program} {s : State} {m : MethodId} {meth : Method} {c : Code} {b L : Nat} {xs : Nat → Int32} (C0 : lw_At p s m meth c b L xs) : ∃ tL tH : Nat, StX tL tH (lx_A s) s s.heap := by
  obtain ⟨hx, hb, hr0, hml, hown, hts0, hXs, hbl, hlocks, hgv⟩ := C0
  have hs := flat_of_before _ hgv
  have hA : ∀ a : Nat, a < s.heap.size → ¬ lx_A s a := fun a h => Nat.not_le.mpr h
  obtain ⟨tL, eL, TL⟩ := va_Tof (tm := .static "TransitMeter" "SETTING_LOW" "[I") (ty := .int) (N := 5) (f := fun j => .int (sSETTING_LOW j)) (A := lx_A s) (by decide) (hs _ (by decide +kernel)) (va_eqt (z := 5) (hs _ (by decide +kernel))) (fun j hj => by
    match j, hj with
    | 0, _ => exact va_eqt (z := 0) (hs _ (by decide +kernel))
    | 1, _ => exact va_eqt (z := 0) (hs _ (by decide +kernel))
    | 2, _ => exact va_eqt (z := 1) (hs _ (by decide +kernel))
    | 3, _ => exact va_eqt (z := 1) (hs _ (by decide +kernel))
    | 4, _ => exact va_eqt (z := 1) (hs _ (by decide +kernel))
    | j + 5, hj => exact absurd hj (by omega)) hA
  obtain ⟨tH, eH, TH⟩ := va_Tof (tm := .static "TransitMeter" "SETTING_HIGH" "[I") (ty := .int) (N := 5) (f := fun j => .int (sSETTING_HIGH j)) (A := lx_A s) (by decide) (hs _ (by decide +kernel)) (va_eqt (z := 5) (hs _ (by decide +kernel))) (fun j hj => by
    match j, hj with
    | 0, _ => exact va_eqt (z := 100) (hs _ (by decide +kernel))
    | 1, _ => exact va_eqt (z := 5) (hs _ (by decide +kernel))
    | 2, _ => exact va_eqt (z := 100) (hs _ (by decide +kernel))
    | 3, _ => exact va_eqt (z := 1000000) (hs _ (by decide +kernel))
    | 4, _ => exact va_eqt (z := 1000) (hs _ (by decide +kernel))
    | j + 5, hj => exact absurd hj (by omega)) hA
  exact ⟨tL, tH, va_Zref (hts0 _ (List.mem_append_right _ (List.mem_of_getElem? (i := 771) (by decide +kernel)))) (hts0 _ (wsL_law_in _ lawm_2)) eL hA, TL, va_Zref (hts0 _ (List.mem_append_right _ (List.mem_of_getElem? (i := 773) (by decide +kernel)))) (hts0 _ (wsL_law_in _ lawm_2)) eH hA, TH⟩

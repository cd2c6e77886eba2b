/-! THE LAW, 4: its cases, written by gen_law.py -/
section LAWB
variable {p : Program} {l : Launch} {e : Env} {R : Room} {s : State} {m : MethodId} {args : Array Value} {below : List Frame} {meth : Method} {c : Code} {H : Heap} {locs : List Loc} {cells slots : Nat} {Q : State → Prop}
variable {cc : ByteArray} {pc : Nat} {ls : Array Slot} {rest : List Value}
theorem lx_bool (hx : p.tables.exec = Jvm.exec) (hb : c.code = cc) {x v : Int32} (hv : v = if x = 0 then 0 else 1) (d1 : decode cc pc = .ok (.ifCond .eq 7, 3)) (d2 : decode cc (pc + 3) = .ok (.iconst 1, 1)) (d3 : decode cc (pc + 4) = .ok (.goto 4, 3)) (d4 : decode cc (pc + 7) = .ok (.iconst 0, 1))
    (kk : W p l e R s m args below meth c H locs cells slots Q (F0 m (pc + 8) ls (.int v :: rest))) : W p l e R s m args below meth c H locs cells slots Q (F0 m pc ls (.int x :: rest)) := by
  refine lv_if_eq (tgt := pc + 7) hx hb d1 (by omega) (fun c1 => ?_) (fun c1 => ?_)
  · rw [if_pos c1] at hv
    subst hv
    exact lv_iconst hx hb d4 (by decide) kk
  · rw [if_neg c1] at hv
    subst hv
    refine lv_iconst (v := 1) hx hb d2 (by decide) ?_
    exact lv_goto (tgt := pc + 8) hx hb d3 (by omega) kk
end LAWB
theorem StX.to {tL tH : Nat} {A B : Nat → Prop} {U U' : State} {H H1 : Heap} (h : StX tL tH A U H) (hq : ∀ a : Nat, a < H.size → ¬ A a → H1[a]? = H[a]?) (hAB : ∀ q, B q → A q) (hvm : U.vm.Alike U'.vm) : StX tL tH B U' H1 :=
  ⟨((h.1.kept hq).narrow hAB).moved hvm, ((h.2.1.kept hq).narrow hAB).moved hvm, ((h.2.2.1.kept hq).narrow hAB).moved hvm, ((h.2.2.2.kept hq).narrow hAB).moved hvm⟩
theorem lx_preS {s : State} {H : Heap} {locs : List Loc} {D : va_G} {cA : Nat → ClassId} {ad ad2 : Nat → Nat} {M N : Mm} {tL tH : Nat} {As : List Value} (hK : KX D cA s) (hX : lx_W D cA ad ad2 M N (lx_A s) s.heap H locs) (hSt : StX tL tH (lx_A s) s s.heap) : PreV s H RX10 (ad 224) (PcS D cA ad M tL tH (.ref (ad 224) :: As)) As := by
  refine ⟨fun _ U g mk q => ⟨q.1, q.2.1, q.2.2.1.warm (State.WarmedH.refl U), q.2.2.2.to (fun _ _ _ => rfl) (fun _ h => h) (Vm.Alike.refl U.vm)⟩, (xpreV (As := As) hK hX.1 (k := 224) rfl (by decide) rfl).2.1, fun U hU hWm => ⟨rfl, ?_, hK.warm hWm, ?_⟩⟩
  · show Xp D true cA ad M U.heap
    rw [hU]
    exact xback hX.1
  · show StX tL tH (AX true ad) U U.heap
    rw [hU]
    exact hSt.to hX.1.2.2.2.1 (xA hX.1) hWm.alike
set_option maxHeartbeats 4000000 in
set_option maxRecDepth 100000 in
/-- addPath -/
theorem law_0 {p : Program} {l : Launch} {e : Env} {s : State} {m : MethodId} {below : List Frame} {meth : Method} {c : Code} {b L : Nat} {xs : Nat → Int32} {D : va_G} {cA : Nat → ClassId} {ad ad2 : Nat → Nat} {M N : Mm} {H : Heap} {locs : List Loc} {ls : Array Slot} {j : Nat} (C0 : lw_At p s m meth c b L xs) (hL : L ≤ 3072) (hK : KX D cA s) (hj : j + 6 ≤ L) (hR : Rel M N) (hX : lx_W D cA ad ad2 M N (lx_A s) s.heap H locs) (hl : lv_has ls 4 [(3, .int (nI j)), (2, .ref (ad2 0)), (1, .ref (ad 224)), (0, .ref b)]) (kk : lx_K p l e s m below meth c D cA b j) : W p l e room_1 s m #[Value.ref b] below meth c H locs 600000 7302250 (lw_Z below #[Value.ref b] s) (F0 m 168 ls []) := by
  obtain ⟨hx, hb, hr0, hml, hown, hts0, hXs, hbl, hlocks, hgv⟩ := C0
  have hts : ∀ w ∈ wsL_law, w.before #[Value.ref b] s = true := fun w h => hts0 w (wsL_law_in w h)
  obtain ⟨r, M2, N2, r1, r2, hR2⟩ := s_addPath (xs (j + 1)) (xs (j + 2)) (xs (j + 3)) (xs (j + 4)) (xs (j + 5)) hR
  refine lv_aload_n hx hb dL_law_168 rfl (lv_at hl 2 rfl) ?_
  refine lx_arg (k := 1) hx hb hXs hbl hX.1.2.2 hl (by omega) hL (by decide) dL_law_169 dL_law_170 dL_law_171 dL_law_172 dL_law_173 ?_
  refine lx_arg (k := 2) hx hb hXs hbl hX.1.2.2 hl (by omega) hL (by decide) dL_law_174 dL_law_175 dL_law_176 dL_law_177 dL_law_178 ?_
  refine lx_arg (k := 3) hx hb hXs hbl hX.1.2.2 hl (by omega) hL (by decide) dL_law_179 dL_law_180 dL_law_181 dL_law_182 dL_law_183 ?_
  refine lx_arg (k := 4) hx hb hXs hbl hX.1.2.2 hl (by omega) hL (by decide) dL_law_184 dL_law_185 dL_law_186 dL_law_187 dL_law_188 ?_
  refine lx_arg (k := 5) hx hb hXs hbl hX.1.2.2 hl (by omega) hL (by decide) dL_law_189 dL_law_190 dL_law_191 dL_law_192 dL_law_193 ?_
  refine lx_xi (va_runV (As := [.int (xs (j + 1)), .int (xs (j + 2)), .int (xs (j + 3)), .int (xs (j + 4)), .int (xs (j + 5))]) (rest := []) ⟨hx, hb, hml, hown, hts⟩ (c_X10_addPath l D cA ad M (xs (j + 1)) (xs (j + 2)) (xs (j + 3)) (xs (j + 4)) (xs (j + 5)) r1) (cwV 5 hts gL_law_X10_addPath rfl rfl rfl (by decide +kernel) ⟨(Nat.le_of_ble_eq_true rfl), (Nat.le_of_ble_eq_true rfl)⟩) (xpreV hK hX.1 (k := 224) rfl (by decide) rfl) rfl rfl hl.1 rfl (lv_room (Nat.le_of_ble_eq_true rfl)) dL_law_194 ⟨(Nat.le_of_ble_eq_true rfl), (Nat.le_of_ble_eq_true rfl)⟩) hX (fun ad1 H locs had hX => ?_)
  rw [← had.1 224 rfl] at hl
  refine lv_aload_n hx hb dL_law_197 rfl (lv_at hl 1 rfl) ?_
  refine lx_arg (k := 1) hx hb hXs hbl hX.1.2.2 hl (by omega) hL (by decide) dL_law_198 dL_law_199 dL_law_200 dL_law_201 dL_law_202 ?_
  refine lx_arg (k := 2) hx hb hXs hbl hX.1.2.2 hl (by omega) hL (by decide) dL_law_203 dL_law_204 dL_law_205 dL_law_206 dL_law_207 ?_
  refine lx_arg (k := 3) hx hb hXs hbl hX.1.2.2 hl (by omega) hL (by decide) dL_law_208 dL_law_209 dL_law_210 dL_law_211 dL_law_212 ?_
  refine lx_arg (k := 4) hx hb hXs hbl hX.1.2.2 hl (by omega) hL (by decide) dL_law_213 dL_law_214 dL_law_215 dL_law_216 dL_law_217 ?_
  refine lx_arg (k := 5) hx hb hXs hbl hX.1.2.2 hl (by omega) hL (by decide) dL_law_218 dL_law_219 dL_law_220 dL_law_221 dL_law_222 ?_
  refine lx_yi (va_runV (As := [.int (xs (j + 1)), .int (xs (j + 2)), .int (xs (j + 3)), .int (xs (j + 4)), .int (xs (j + 5))]) (rest := [.int r]) ⟨hx, hb, hml, hown, hts⟩ (c_X11_addPath l D cA ad2 N (xs (j + 1)) (xs (j + 2)) (xs (j + 3)) (xs (j + 4)) (xs (j + 5)) r2) (cwV 5 hts gL_law_X11_addPath rfl rfl rfl (by decide +kernel) ⟨(Nat.le_of_ble_eq_true rfl), (Nat.le_of_ble_eq_true rfl)⟩) (xpreV hK hX.2.1 (k := 0) rfl (by decide) rfl) rfl rfl hl.1 rfl (lv_room (Nat.le_of_ble_eq_true rfl)) dL_law_223 ⟨(Nat.le_of_ble_eq_true rfl), (Nat.le_of_ble_eq_true rfl)⟩) hX (fun H locs hX => ?_)
  refine lv_icmp_eq (tgt := 976) hx hb dL_law_226 (by decide) (fun _ => ?_) (fun c1 => absurd rfl c1)
  exact kk ad1 ad2 M2 N2 H locs ls hR2 hX hl
set_option maxHeartbeats 4000000 in
set_option maxRecDepth 100000 in
/-- setWeight -/
theorem law_1 {p : Program} {l : Launch} {e : Env} {s : State} {m : MethodId} {below : List Frame} {meth : Method} {c : Code} {b L : Nat} {xs : Nat → Int32} {D : va_G} {cA : Nat → ClassId} {ad ad2 : Nat → Nat} {M N : Mm} {H : Heap} {locs : List Loc} {ls : Array Slot} {j : Nat} (C0 : lw_At p s m meth c b L xs) (hL : L ≤ 3072) (hK : KX D cA s) (hj : j + 6 ≤ L) (hR : Rel M N) (hX : lx_W D cA ad ad2 M N (lx_A s) s.heap H locs) (hl : lv_has ls 4 [(3, .int (nI j)), (2, .ref (ad2 0)), (1, .ref (ad 224)), (0, .ref b)]) (kk : lx_K p l e s m below meth c D cA b j) : W p l e room_1 s m #[Value.ref b] below meth c H locs 600000 7302250 (lw_Z below #[Value.ref b] s) (F0 m 231 ls []) := by
  obtain ⟨hx, hb, hr0, hml, hown, hts0, hXs, hbl, hlocks, hgv⟩ := C0
  have hts : ∀ w ∈ wsL_law, w.before #[Value.ref b] s = true := fun w h => hts0 w (wsL_law_in w h)
  obtain ⟨r, M2, N2, r1, r2, hR2⟩ := s_setWeight (xs (j + 1)) (xs (j + 2)) hR
  refine lv_aload_n hx hb dL_law_231 rfl (lv_at hl 2 rfl) ?_
  refine lx_arg (k := 1) hx hb hXs hbl hX.1.2.2 hl (by omega) hL (by decide) dL_law_232 dL_law_233 dL_law_234 dL_law_235 dL_law_236 ?_
  refine lx_arg (k := 2) hx hb hXs hbl hX.1.2.2 hl (by omega) hL (by decide) dL_law_237 dL_law_238 dL_law_239 dL_law_240 dL_law_241 ?_
  refine lx_xi (va_runV (As := [.int (xs (j + 1)), .int (xs (j + 2))]) (rest := []) ⟨hx, hb, hml, hown, hts⟩ (c_X10_setWeight l D cA ad M (xs (j + 1)) (xs (j + 2)) r1) (cwV 2 hts gL_law_X10_setWeight rfl rfl rfl (by decide +kernel) ⟨(Nat.le_of_ble_eq_true rfl), (Nat.le_of_ble_eq_true rfl)⟩) (xpreV hK hX.1 (k := 224) rfl (by decide) rfl) rfl rfl hl.1 rfl (lv_room (Nat.le_of_ble_eq_true rfl)) dL_law_242 ⟨(Nat.le_of_ble_eq_true rfl), (Nat.le_of_ble_eq_true rfl)⟩) hX (fun ad1 H locs had hX => ?_)
  rw [← had.1 224 rfl] at hl
  refine lv_aload_n hx hb dL_law_245 rfl (lv_at hl 1 rfl) ?_
  refine lx_arg (k := 1) hx hb hXs hbl hX.1.2.2 hl (by omega) hL (by decide) dL_law_246 dL_law_247 dL_law_248 dL_law_249 dL_law_250 ?_
  refine lx_arg (k := 2) hx hb hXs hbl hX.1.2.2 hl (by omega) hL (by decide) dL_law_251 dL_law_252 dL_law_253 dL_law_254 dL_law_255 ?_
  refine lx_yi (va_runV (As := [.int (xs (j + 1)), .int (xs (j + 2))]) (rest := [.int r]) ⟨hx, hb, hml, hown, hts⟩ (c_X11_setWeight l D cA ad2 N (xs (j + 1)) (xs (j + 2)) r2) (cwV 2 hts gL_law_X11_setWeight rfl rfl rfl (by decide +kernel) ⟨(Nat.le_of_ble_eq_true rfl), (Nat.le_of_ble_eq_true rfl)⟩) (xpreV hK hX.2.1 (k := 0) rfl (by decide) rfl) rfl rfl hl.1 rfl (lv_room (Nat.le_of_ble_eq_true rfl)) dL_law_256 ⟨(Nat.le_of_ble_eq_true rfl), (Nat.le_of_ble_eq_true rfl)⟩) hX (fun H locs hX => ?_)
  refine lv_icmp_eq (tgt := 976) hx hb dL_law_259 (by decide) (fun _ => ?_) (fun c1 => absurd rfl c1)
  exact kk ad1 ad2 M2 N2 H locs ls hR2 hX hl
set_option maxHeartbeats 4000000 in
set_option maxRecDepth 100000 in
/-- setPoint -/
theorem law_2 {p : Program} {l : Launch} {e : Env} {s : State} {m : MethodId} {below : List Frame} {meth : Method} {c : Code} {b L : Nat} {xs : Nat → Int32} {D : va_G} {cA : Nat → ClassId} {ad ad2 : Nat → Nat} {M N : Mm} {H : Heap} {locs : List Loc} {ls : Array Slot} {j : Nat} (C0 : lw_At p s m meth c b L xs) (hL : L ≤ 3072) (hK : KX D cA s) (hj : j + 6 ≤ L) (hR : Rel M N) (hX : lx_W D cA ad ad2 M N (lx_A s) s.heap H locs) (hl : lv_has ls 4 [(3, .int (nI j)), (2, .ref (ad2 0)), (1, .ref (ad 224)), (0, .ref b)]) (kk : lx_K p l e s m below meth c D cA b j) : W p l e room_1 s m #[Value.ref b] below meth c H locs 600000 7302250 (lw_Z below #[Value.ref b] s) (F0 m 264 ls []) := by
  obtain ⟨hx, hb, hr0, hml, hown, hts0, hXs, hbl, hlocks, hgv⟩ := C0
  have hts : ∀ w ∈ wsL_law, w.before #[Value.ref b] s = true := fun w h => hts0 w (wsL_law_in w h)
  obtain ⟨r, M2, N2, r1, r2, hR2⟩ := s_setPoint (xs (j + 1)) (xs (j + 2)) hR
  refine lv_aload_n hx hb dL_law_264 rfl (lv_at hl 2 rfl) ?_
  refine lx_arg (k := 1) hx hb hXs hbl hX.1.2.2 hl (by omega) hL (by decide) dL_law_265 dL_law_266 dL_law_267 dL_law_268 dL_law_269 ?_
  refine lx_arg (k := 2) hx hb hXs hbl hX.1.2.2 hl (by omega) hL (by decide) dL_law_270 dL_law_271 dL_law_272 dL_law_273 dL_law_274 ?_
  refine lx_xi (va_runV (As := [.int (xs (j + 1)), .int (xs (j + 2))]) (rest := []) ⟨hx, hb, hml, hown, hts⟩ (c_X10_setPoint l D cA ad M (xs (j + 1)) (xs (j + 2)) r1) (cwV 2 hts gL_law_X10_setPoint rfl rfl rfl (by decide +kernel) ⟨(Nat.le_of_ble_eq_true rfl), (Nat.le_of_ble_eq_true rfl)⟩) (xpreV hK hX.1 (k := 224) rfl (by decide) rfl) rfl rfl hl.1 rfl (lv_room (Nat.le_of_ble_eq_true rfl)) dL_law_275 ⟨(Nat.le_of_ble_eq_true rfl), (Nat.le_of_ble_eq_true rfl)⟩) hX (fun ad1 H locs had hX => ?_)
  rw [← had.1 224 rfl] at hl
  refine lv_aload_n hx hb dL_law_278 rfl (lv_at hl 1 rfl) ?_
  refine lx_arg (k := 1) hx hb hXs hbl hX.1.2.2 hl (by omega) hL (by decide) dL_law_279 dL_law_280 dL_law_281 dL_law_282 dL_law_283 ?_
  refine lx_arg (k := 2) hx hb hXs hbl hX.1.2.2 hl (by omega) hL (by decide) dL_law_284 dL_law_285 dL_law_286 dL_law_287 dL_law_288 ?_
  refine lx_yi (va_runV (As := [.int (xs (j + 1)), .int (xs (j + 2))]) (rest := [.int r]) ⟨hx, hb, hml, hown, hts⟩ (c_X11_setPoint l D cA ad2 N (xs (j + 1)) (xs (j + 2)) r2) (cwV 2 hts gL_law_X11_setPoint rfl rfl rfl (by decide +kernel) ⟨(Nat.le_of_ble_eq_true rfl), (Nat.le_of_ble_eq_true rfl)⟩) (xpreV hK hX.2.1 (k := 0) rfl (by decide) rfl) rfl rfl hl.1 rfl (lv_room (Nat.le_of_ble_eq_true rfl)) dL_law_289 ⟨(Nat.le_of_ble_eq_true rfl), (Nat.le_of_ble_eq_true rfl)⟩) hX (fun H locs hX => ?_)
  refine lv_icmp_eq (tgt := 976) hx hb dL_law_292 (by decide) (fun _ => ?_) (fun c1 => absurd rfl c1)
  exact kk ad1 ad2 M2 N2 H locs ls hR2 hX hl
set_option maxHeartbeats 4000000 in
set_option maxRecDepth 100000 in
/-- removePoint -/
theorem law_3 {p : Program} {l : Launch} {e : Env} {s : State} {m : MethodId} {below : List Frame} {meth : Method} {c : Code} {b L : Nat} {xs : Nat → Int32} {D : va_G} {cA : Nat → ClassId} {ad ad2 : Nat → Nat} {M N : Mm} {H : Heap} {locs : List Loc} {ls : Array Slot} {j : Nat} (C0 : lw_At p s m meth c b L xs) (hL : L ≤ 3072) (hK : KX D cA s) (hj : j + 6 ≤ L) (hR : Rel M N) (hX : lx_W D cA ad ad2 M N (lx_A s) s.heap H locs) (hl : lv_has ls 4 [(3, .int (nI j)), (2, .ref (ad2 0)), (1, .ref (ad 224)), (0, .ref b)]) (kk : lx_K p l e s m below meth c D cA b j) : W p l e room_1 s m #[Value.ref b] below meth c H locs 600000 7302250 (lw_Z below #[Value.ref b] s) (F0 m 297 ls []) := by
  obtain ⟨hx, hb, hr0, hml, hown, hts0, hXs, hbl, hlocks, hgv⟩ := C0
  have hts : ∀ w ∈ wsL_law, w.before #[Value.ref b] s = true := fun w h => hts0 w (wsL_law_in w h)
  obtain ⟨r, M2, N2, r1, r2, hR2⟩ := s_removePoint (xs (j + 1)) hR
  refine lv_aload_n hx hb dL_law_297 rfl (lv_at hl 2 rfl) ?_
  refine lx_arg (k := 1) hx hb hXs hbl hX.1.2.2 hl (by omega) hL (by decide) dL_law_298 dL_law_299 dL_law_300 dL_law_301 dL_law_302 ?_
  refine lx_xi (va_runV (As := [.int (xs (j + 1))]) (rest := []) ⟨hx, hb, hml, hown, hts⟩ (c_X10_removePoint l D cA ad M (xs (j + 1)) r1) (cwV 1 hts gL_law_X10_removePoint rfl rfl rfl (by decide +kernel) ⟨(Nat.le_of_ble_eq_true rfl), (Nat.le_of_ble_eq_true rfl)⟩) (xpreV hK hX.1 (k := 224) rfl (by decide) rfl) rfl rfl hl.1 rfl (lv_room (Nat.le_of_ble_eq_true rfl)) dL_law_303 ⟨(Nat.le_of_ble_eq_true rfl), (Nat.le_of_ble_eq_true rfl)⟩) hX (fun ad1 H locs had hX => ?_)
  rw [← had.1 224 rfl] at hl
  refine lv_aload_n hx hb dL_law_306 rfl (lv_at hl 1 rfl) ?_
  refine lx_arg (k := 1) hx hb hXs hbl hX.1.2.2 hl (by omega) hL (by decide) dL_law_307 dL_law_308 dL_law_309 dL_law_310 dL_law_311 ?_
  refine lx_yi (va_runV (As := [.int (xs (j + 1))]) (rest := [.int r]) ⟨hx, hb, hml, hown, hts⟩ (c_X11_removePoint l D cA ad2 N (xs (j + 1)) r2) (cwV 1 hts gL_law_X11_removePoint rfl rfl rfl (by decide +kernel) ⟨(Nat.le_of_ble_eq_true rfl), (Nat.le_of_ble_eq_true rfl)⟩) (xpreV hK hX.2.1 (k := 0) rfl (by decide) rfl) rfl rfl hl.1 rfl (lv_room (Nat.le_of_ble_eq_true rfl)) dL_law_312 ⟨(Nat.le_of_ble_eq_true rfl), (Nat.le_of_ble_eq_true rfl)⟩) hX (fun H locs hX => ?_)
  refine lv_icmp_eq (tgt := 976) hx hb dL_law_315 (by decide) (fun _ => ?_) (fun c1 => absurd rfl c1)
  exact kk ad1 ad2 M2 N2 H locs ls hR2 hX hl
set_option maxHeartbeats 4000000 in
set_option maxRecDepth 100000 in
/-- set -/
theorem law_4 {p : Program} {l : Launch} {e : Env} {s : State} {m : MethodId} {below : List Frame} {meth : Method} {c : Code} {b L : Nat} {xs : Nat → Int32} {D : va_G} {cA : Nat → ClassId} {ad ad2 : Nat → Nat} {M N : Mm} {H : Heap} {locs : List Loc} {ls : Array Slot} {j : Nat} {tL tH : Nat} (hSt : StX tL tH (lx_A s) s s.heap) (C0 : lw_At p s m meth c b L xs) (hL : L ≤ 3072) (hK : KX D cA s) (hj : j + 6 ≤ L) (hR : Rel M N) (hX : lx_W D cA ad ad2 M N (lx_A s) s.heap H locs) (hl : lv_has ls 4 [(3, .int (nI j)), (2, .ref (ad2 0)), (1, .ref (ad 224)), (0, .ref b)]) (kk : lx_K p l e s m below meth c D cA b j) : W p l e room_1 s m #[Value.ref b] below meth c H locs 600000 7302250 (lw_Z below #[Value.ref b] s) (F0 m 320 ls []) := by
  obtain ⟨hx, hb, hr0, hml, hown, hts0, hXs, hbl, hlocks, hgv⟩ := C0
  have hts : ∀ w ∈ wsL_law, w.before #[Value.ref b] s = true := fun w h => hts0 w (wsL_law_in w h)
  obtain ⟨r, M2, N2, r1, r2, hR2⟩ := s_set (xs (j + 1)) (xs (j + 2)) hR
  refine lv_aload_n hx hb dL_law_320 rfl (lv_at hl 2 rfl) ?_
  refine lx_arg (k := 1) hx hb hXs hbl hX.1.2.2 hl (by omega) hL (by decide) dL_law_321 dL_law_322 dL_law_323 dL_law_324 dL_law_325 ?_
  refine lx_arg (k := 2) hx hb hXs hbl hX.1.2.2 hl (by omega) hL (by decide) dL_law_326 dL_law_327 dL_law_328 dL_law_329 dL_law_330 ?_
  refine lx_xi (va_runV (As := [.int (xs (j + 1)), .int (xs (j + 2))]) (rest := []) ⟨hx, hb, hml, hown, hts⟩ (c_X10_set l D cA ad M (xs (j + 1)) (xs (j + 2)) tL tH r1) (cwV 2 hts gL_law_X10_set rfl rfl rfl (by decide +kernel) ⟨(Nat.le_of_ble_eq_true rfl), (Nat.le_of_ble_eq_true rfl)⟩) (lx_preS hK hX hSt) rfl rfl hl.1 rfl (lv_room (Nat.le_of_ble_eq_true rfl)) dL_law_331 ⟨(Nat.le_of_ble_eq_true rfl), (Nat.le_of_ble_eq_true rfl)⟩) hX (fun ad1 H locs had hX => ?_)
  rw [← had.1 224 rfl] at hl
  refine lv_aload_n hx hb dL_law_334 rfl (lv_at hl 1 rfl) ?_
  refine lx_arg (k := 1) hx hb hXs hbl hX.1.2.2 hl (by omega) hL (by decide) dL_law_335 dL_law_336 dL_law_337 dL_law_338 dL_law_339 ?_
  refine lx_arg (k := 2) hx hb hXs hbl hX.1.2.2 hl (by omega) hL (by decide) dL_law_340 dL_law_341 dL_law_342 dL_law_343 dL_law_344 ?_
  refine lx_yi (va_runV (As := [.int (xs (j + 1)), .int (xs (j + 2))]) (rest := [.int r]) ⟨hx, hb, hml, hown, hts⟩ (c_X11_set l D cA ad2 N (xs (j + 1)) (xs (j + 2)) r2) (cwV 2 hts gL_law_X11_set rfl rfl rfl (by decide +kernel) ⟨(Nat.le_of_ble_eq_true rfl), (Nat.le_of_ble_eq_true rfl)⟩) (xpreV hK hX.2.1 (k := 0) rfl (by decide) rfl) rfl rfl hl.1 rfl (lv_room (Nat.le_of_ble_eq_true rfl)) dL_law_345 ⟨(Nat.le_of_ble_eq_true rfl), (Nat.le_of_ble_eq_true rfl)⟩) hX (fun H locs hX => ?_)
  refine lv_icmp_eq (tgt := 976) hx hb dL_law_348 (by decide) (fun _ => ?_) (fun c1 => absurd rfl c1)
  exact kk ad1 ad2 M2 N2 H locs ls hR2 hX hl
set_option maxHeartbeats 4000000 in
set_option maxRecDepth 100000 in
/-- shot -/
theorem law_5 {p : Program} {l : Launch} {e : Env} {s : State} {m : MethodId} {below : List Frame} {meth : Method} {c : Code} {b L : Nat} {xs : Nat → Int32} {D : va_G} {cA : Nat → ClassId} {ad ad2 : Nat → Nat} {M N : Mm} {H : Heap} {locs : List Loc} {ls : Array Slot} {j : Nat} (C0 : lw_At p s m meth c b L xs) (hL : L ≤ 3072) (hK : KX D cA s) (hj : j + 6 ≤ L) (hR : Rel M N) (hX : lx_W D cA ad ad2 M N (lx_A s) s.heap H locs) (hl : lv_has ls 4 [(3, .int (nI j)), (2, .ref (ad2 0)), (1, .ref (ad 224)), (0, .ref b)]) (kk : lx_K p l e s m below meth c D cA b j) : W p l e room_1 s m #[Value.ref b] below meth c H locs 600000 7302250 (lw_Z below #[Value.ref b] s) (F0 m 353 ls []) := by
  obtain ⟨hx, hb, hr0, hml, hown, hts0, hXs, hbl, hlocks, hgv⟩ := C0
  have hts : ∀ w ∈ wsL_law, w.before #[Value.ref b] s = true := fun w h => hts0 w (wsL_law_in w h)
  obtain ⟨r, M2, N2, r1, r2, hR2⟩ := s_shot (xs (j + 1)) (xs (j + 2)) (xs (j + 3)) (xs (j + 4)) hR
  refine lv_aload_n hx hb dL_law_353 rfl (lv_at hl 2 rfl) ?_
  refine lx_arg (k := 1) hx hb hXs hbl hX.1.2.2 hl (by omega) hL (by decide) dL_law_354 dL_law_355 dL_law_356 dL_law_357 dL_law_358 ?_
  refine lx_arg (k := 2) hx hb hXs hbl hX.1.2.2 hl (by omega) hL (by decide) dL_law_359 dL_law_360 dL_law_361 dL_law_362 dL_law_363 ?_
  refine lx_arg (k := 3) hx hb hXs hbl hX.1.2.2 hl (by omega) hL (by decide) dL_law_364 dL_law_365 dL_law_366 dL_law_367 dL_law_368 ?_
  refine lx_arg (k := 4) hx hb hXs hbl hX.1.2.2 hl (by omega) hL (by decide) dL_law_369 dL_law_370 dL_law_371 dL_law_372 dL_law_373 ?_
  refine lx_xi (va_runV (As := [.int (xs (j + 1)), .int (xs (j + 2)), .int (xs (j + 3)), .int (xs (j + 4))]) (rest := []) ⟨hx, hb, hml, hown, hts⟩ (c_X10_shot l D cA ad M (xs (j + 1)) (xs (j + 2)) (xs (j + 3)) (xs (j + 4)) r1) (cwV 4 hts gL_law_X10_shot rfl rfl rfl (by decide +kernel) ⟨(Nat.le_of_ble_eq_true rfl), (Nat.le_of_ble_eq_true rfl)⟩) (xpreV hK hX.1 (k := 224) rfl (by decide) rfl) rfl rfl hl.1 rfl (lv_room (Nat.le_of_ble_eq_true rfl)) dL_law_374 ⟨(Nat.le_of_ble_eq_true rfl), (Nat.le_of_ble_eq_true rfl)⟩) hX (fun ad1 H locs had hX => ?_)
  rw [← had.1 224 rfl] at hl
  refine lv_aload_n hx hb dL_law_377 rfl (lv_at hl 1 rfl) ?_
  refine lx_arg (k := 1) hx hb hXs hbl hX.1.2.2 hl (by omega) hL (by decide) dL_law_378 dL_law_379 dL_law_380 dL_law_381 dL_law_382 ?_
  refine lx_arg (k := 2) hx hb hXs hbl hX.1.2.2 hl (by omega) hL (by decide) dL_law_383 dL_law_384 dL_law_385 dL_law_386 dL_law_387 ?_
  refine lx_arg (k := 3) hx hb hXs hbl hX.1.2.2 hl (by omega) hL (by decide) dL_law_388 dL_law_389 dL_law_390 dL_law_391 dL_law_392 ?_
  refine lx_arg (k := 4) hx hb hXs hbl hX.1.2.2 hl (by omega) hL (by decide) dL_law_393 dL_law_394 dL_law_395 dL_law_396 dL_law_397 ?_
  refine lx_yi (va_runV (As := [.int (xs (j + 1)), .int (xs (j + 2)), .int (xs (j + 3)), .int (xs (j + 4))]) (rest := [.int r]) ⟨hx, hb, hml, hown, hts⟩ (c_X11_shot l D cA ad2 N (xs (j + 1)) (xs (j + 2)) (xs (j + 3)) (xs (j + 4)) r2) (cwV 4 hts gL_law_X11_shot rfl rfl rfl (by decide +kernel) ⟨(Nat.le_of_ble_eq_true rfl), (Nat.le_of_ble_eq_true rfl)⟩) (xpreV hK hX.2.1 (k := 0) rfl (by decide) rfl) rfl rfl hl.1 rfl (lv_room (Nat.le_of_ble_eq_true rfl)) dL_law_398 ⟨(Nat.le_of_ble_eq_true rfl), (Nat.le_of_ble_eq_true rfl)⟩) hX (fun H locs hX => ?_)
  refine lv_icmp_eq (tgt := 976) hx hb dL_law_401 (by decide) (fun _ => ?_) (fun c1 => absurd rfl c1)
  exact kk ad1 ad2 M2 N2 H locs ls hR2 hX hl
set_option maxHeartbeats 4000000 in
set_option maxRecDepth 100000 in
/-- close -/
theorem law_6 {p : Program} {l : Launch} {e : Env} {s : State} {m : MethodId} {below : List Frame} {meth : Method} {c : Code} {b L : Nat} {xs : Nat → Int32} {D : va_G} {cA : Nat → ClassId} {ad ad2 : Nat → Nat} {M N : Mm} {H : Heap} {locs : List Loc} {ls : Array Slot} {j : Nat} (C0 : lw_At p s m meth c b L xs) (hL : L ≤ 3072) (hK : KX D cA s) (hj : j + 6 ≤ L) (hR : Rel M N) (hX : lx_W D cA ad ad2 M N (lx_A s) s.heap H locs) (hl : lv_has ls 4 [(3, .int (nI j)), (2, .ref (ad2 0)), (1, .ref (ad 224)), (0, .ref b)]) (kk : lx_K p l e s m below meth c D cA b j) : W p l e room_1 s m #[Value.ref b] below meth c H locs 600000 7302250 (lw_Z below #[Value.ref b] s) (F0 m 406 ls []) := by
  obtain ⟨hx, hb, hr0, hml, hown, hts0, hXs, hbl, hlocks, hgv⟩ := C0
  have hts : ∀ w ∈ wsL_law, w.before #[Value.ref b] s = true := fun w h => hts0 w (wsL_law_in w h)
  obtain ⟨r, M2, N2, r1, r2, hR2⟩ := s_close  hR
  refine lv_aload_n hx hb dL_law_406 rfl (lv_at hl 2 rfl) ?_
  refine lx_xi (va_runV (As := []) (rest := []) ⟨hx, hb, hml, hown, hts⟩ (c_X10_close l D cA ad M r1) (cwV 0 hts gL_law_X10_close rfl rfl rfl (by decide +kernel) ⟨(Nat.le_of_ble_eq_true rfl), (Nat.le_of_ble_eq_true rfl)⟩) (xpreV hK hX.1 (k := 224) rfl (by decide) rfl) rfl rfl hl.1 rfl (lv_room (Nat.le_of_ble_eq_true rfl)) dL_law_407 ⟨(Nat.le_of_ble_eq_true rfl), (Nat.le_of_ble_eq_true rfl)⟩) hX (fun ad1 H locs had hX => ?_)
  rw [← had.1 224 rfl] at hl
  refine lv_aload_n hx hb dL_law_410 rfl (lv_at hl 1 rfl) ?_
  refine lx_yi (va_runV (As := []) (rest := [.int r]) ⟨hx, hb, hml, hown, hts⟩ (c_X11_close l D cA ad2 N r2) (cwV 0 hts gL_law_X11_close rfl rfl rfl (by decide +kernel) ⟨(Nat.le_of_ble_eq_true rfl), (Nat.le_of_ble_eq_true rfl)⟩) (xpreV hK hX.2.1 (k := 0) rfl (by decide) rfl) rfl rfl hl.1 rfl (lv_room (Nat.le_of_ble_eq_true rfl)) dL_law_411 ⟨(Nat.le_of_ble_eq_true rfl), (Nat.le_of_ble_eq_true rfl)⟩) hX (fun H locs hX => ?_)
  refine lv_icmp_eq (tgt := 976) hx hb dL_law_414 (by decide) (fun _ => ?_) (fun c1 => absurd rfl c1)
  exact kk ad1 ad2 M2 N2 H locs ls hR2 hX hl
set_option maxHeartbeats 4000000 in
set_option maxRecDepth 100000 in
/-- swap -/
theorem law_7 {p : Program} {l : Launch} {e : Env} {s : State} {m : MethodId} {below : List Frame} {meth : Method} {c : Code} {b L : Nat} {xs : Nat → Int32} {D : va_G} {cA : Nat → ClassId} {ad ad2 : Nat → Nat} {M N : Mm} {H : Heap} {locs : List Loc} {ls : Array Slot} {j : Nat} (C0 : lw_At p s m meth c b L xs) (hL : L ≤ 3072) (hK : KX D cA s) (hj : j + 6 ≤ L) (hR : Rel M N) (hX : lx_W D cA ad ad2 M N (lx_A s) s.heap H locs) (hl : lv_has ls 4 [(3, .int (nI j)), (2, .ref (ad2 0)), (1, .ref (ad 224)), (0, .ref b)]) (kk : lx_K p l e s m below meth c D cA b j) : W p l e room_1 s m #[Value.ref b] below meth c H locs 600000 7302250 (lw_Z below #[Value.ref b] s) (F0 m 419 ls []) := by
  obtain ⟨hx, hb, hr0, hml, hown, hts0, hXs, hbl, hlocks, hgv⟩ := C0
  have hts : ∀ w ∈ wsL_law, w.before #[Value.ref b] s = true := fun w h => hts0 w (wsL_law_in w h)
  obtain ⟨r, M2, N2, r1, r2, hR2⟩ := s_swap  hR
  refine lv_aload_n hx hb dL_law_419 rfl (lv_at hl 2 rfl) ?_
  refine lx_xi (va_runV (As := []) (rest := []) ⟨hx, hb, hml, hown, hts⟩ (c_X10_swap l D cA ad M r1) (cwV 0 hts gL_law_X10_swap rfl rfl rfl (by decide +kernel) ⟨(Nat.le_of_ble_eq_true rfl), (Nat.le_of_ble_eq_true rfl)⟩) (xpreV hK hX.1 (k := 224) rfl (by decide) rfl) rfl rfl hl.1 rfl (lv_room (Nat.le_of_ble_eq_true rfl)) dL_law_420 ⟨(Nat.le_of_ble_eq_true rfl), (Nat.le_of_ble_eq_true rfl)⟩) hX (fun ad1 H locs had hX => ?_)
  rw [← had.1 224 rfl] at hl
  refine lv_aload_n hx hb dL_law_423 rfl (lv_at hl 1 rfl) ?_
  refine lx_yi (va_runV (As := []) (rest := [.int r]) ⟨hx, hb, hml, hown, hts⟩ (c_X11_swap l D cA ad2 N r2) (cwV 0 hts gL_law_X11_swap rfl rfl rfl (by decide +kernel) ⟨(Nat.le_of_ble_eq_true rfl), (Nat.le_of_ble_eq_true rfl)⟩) (xpreV hK hX.2.1 (k := 0) rfl (by decide) rfl) rfl rfl hl.1 rfl (lv_room (Nat.le_of_ble_eq_true rfl)) dL_law_424 ⟨(Nat.le_of_ble_eq_true rfl), (Nat.le_of_ble_eq_true rfl)⟩) hX (fun H locs hX => ?_)
  refine lv_icmp_eq (tgt := 976) hx hb dL_law_427 (by decide) (fun _ => ?_) (fun c1 => absurd rfl c1)
  exact kk ad1 ad2 M2 N2 H locs ls hR2 hX hl
set_option maxHeartbeats 4000000 in
set_option maxRecDepth 100000 in
/-- forget -/
theorem law_8 {p : Program} {l : Launch} {e : Env} {s : State} {m : MethodId} {below : List Frame} {meth : Method} {c : Code} {b L : Nat} {xs : Nat → Int32} {D : va_G} {cA : Nat → ClassId} {ad ad2 : Nat → Nat} {M N : Mm} {H : Heap} {locs : List Loc} {ls : Array Slot} {j : Nat} (C0 : lw_At p s m meth c b L xs) (hL : L ≤ 3072) (hK : KX D cA s) (hj : j + 6 ≤ L) (hR : Rel M N) (hX : lx_W D cA ad ad2 M N (lx_A s) s.heap H locs) (hl : lv_has ls 4 [(3, .int (nI j)), (2, .ref (ad2 0)), (1, .ref (ad 224)), (0, .ref b)]) (kk : lx_K p l e s m below meth c D cA b j) : W p l e room_1 s m #[Value.ref b] below meth c H locs 600000 7302250 (lw_Z below #[Value.ref b] s) (F0 m 432 ls []) := by
  obtain ⟨hx, hb, hr0, hml, hown, hts0, hXs, hbl, hlocks, hgv⟩ := C0
  have hts : ∀ w ∈ wsL_law, w.before #[Value.ref b] s = true := fun w h => hts0 w (wsL_law_in w h)
  obtain ⟨r, M2, N2, r1, r2, hR2⟩ := s_forget (xs (j + 1)) hR
  refine lv_aload_n hx hb dL_law_432 rfl (lv_at hl 2 rfl) ?_
  refine lx_arg (k := 1) hx hb hXs hbl hX.1.2.2 hl (by omega) hL (by decide) dL_law_433 dL_law_434 dL_law_435 dL_law_436 dL_law_437 ?_
  refine lx_xi (va_runV (As := [.int (xs (j + 1))]) (rest := []) ⟨hx, hb, hml, hown, hts⟩ (c_X10_forget l D cA ad M (xs (j + 1)) r1) (cwV 1 hts gL_law_X10_forget rfl rfl rfl (by decide +kernel) ⟨(Nat.le_of_ble_eq_true rfl), (Nat.le_of_ble_eq_true rfl)⟩) (xpreV hK hX.1 (k := 224) rfl (by decide) rfl) rfl rfl hl.1 rfl (lv_room (Nat.le_of_ble_eq_true rfl)) dL_law_438 ⟨(Nat.le_of_ble_eq_true rfl), (Nat.le_of_ble_eq_true rfl)⟩) hX (fun ad1 H locs had hX => ?_)
  rw [← had.1 224 rfl] at hl
  refine lv_aload_n hx hb dL_law_441 rfl (lv_at hl 1 rfl) ?_
  refine lx_arg (k := 1) hx hb hXs hbl hX.1.2.2 hl (by omega) hL (by decide) dL_law_442 dL_law_443 dL_law_444 dL_law_445 dL_law_446 ?_
  refine lx_yi (va_runV (As := [.int (xs (j + 1))]) (rest := [.int r]) ⟨hx, hb, hml, hown, hts⟩ (c_X11_forget l D cA ad2 N (xs (j + 1)) r2) (cwV 1 hts gL_law_X11_forget rfl rfl rfl (by decide +kernel) ⟨(Nat.le_of_ble_eq_true rfl), (Nat.le_of_ble_eq_true rfl)⟩) (xpreV hK hX.2.1 (k := 0) rfl (by decide) rfl) rfl rfl hl.1 rfl (lv_room (Nat.le_of_ble_eq_true rfl)) dL_law_447 ⟨(Nat.le_of_ble_eq_true rfl), (Nat.le_of_ble_eq_true rfl)⟩) hX (fun H locs hX => ?_)
  refine lv_icmp_eq (tgt := 976) hx hb dL_law_450 (by decide) (fun _ => ?_) (fun c1 => absurd rfl c1)
  exact kk ad1 ad2 M2 N2 H locs ls hR2 hX hl
set_option maxHeartbeats 4000000 in
set_option maxRecDepth 100000 in
/-- append -/
theorem law_9 {p : Program} {l : Launch} {e : Env} {s : State} {m : MethodId} {below : List Frame} {meth : Method} {c : Code} {b L : Nat} {xs : Nat → Int32} {D : va_G} {cA : Nat → ClassId} {ad ad2 : Nat → Nat} {M N : Mm} {H : Heap} {locs : List Loc} {ls : Array Slot} {j : Nat} (C0 : lw_At p s m meth c b L xs) (hL : L ≤ 3072) (hK : KX D cA s) (hj : j + 6 ≤ L) (hR : Rel M N) (hX : lx_W D cA ad ad2 M N (lx_A s) s.heap H locs) (hl : lv_has ls 4 [(3, .int (nI j)), (2, .ref (ad2 0)), (1, .ref (ad 224)), (0, .ref b)]) (kk : lx_K p l e s m below meth c D cA b j) : W p l e room_1 s m #[Value.ref b] below meth c H locs 600000 7302250 (lw_Z below #[Value.ref b] s) (F0 m 455 ls []) := by
  obtain ⟨hx, hb, hr0, hml, hown, hts0, hXs, hbl, hlocks, hgv⟩ := C0
  have hts : ∀ w ∈ wsL_law, w.before #[Value.ref b] s = true := fun w h => hts0 w (wsL_law_in w h)
  obtain ⟨r, M2, N2, r1, r2, hR2⟩ := s_append (xs (j + 1)) hR
  refine lv_aload_n hx hb dL_law_455 rfl (lv_at hl 2 rfl) ?_
  refine lx_arg (k := 1) hx hb hXs hbl hX.1.2.2 hl (by omega) hL (by decide) dL_law_456 dL_law_457 dL_law_458 dL_law_459 dL_law_460 ?_
  refine lx_xi (va_runV (As := [.int (xs (j + 1))]) (rest := []) ⟨hx, hb, hml, hown, hts⟩ (c_X10_append l D cA ad M (xs (j + 1)) r1) (cwV 1 hts gL_law_X10_append rfl rfl rfl (by decide +kernel) ⟨(Nat.le_of_ble_eq_true rfl), (Nat.le_of_ble_eq_true rfl)⟩) (xpreV hK hX.1 (k := 224) rfl (by decide) rfl) rfl rfl hl.1 rfl (lv_room (Nat.le_of_ble_eq_true rfl)) dL_law_461 ⟨(Nat.le_of_ble_eq_true rfl), (Nat.le_of_ble_eq_true rfl)⟩) hX (fun ad1 H locs had hX => ?_)
  rw [show ad1 = ad from had] at hX
  refine lv_aload_n hx hb dL_law_464 rfl (lv_at hl 1 rfl) ?_
  refine lx_arg (k := 1) hx hb hXs hbl hX.1.2.2 hl (by omega) hL (by decide) dL_law_465 dL_law_466 dL_law_467 dL_law_468 dL_law_469 ?_
  refine lx_yi (va_runV (As := [.int (xs (j + 1))]) (rest := [.int r]) ⟨hx, hb, hml, hown, hts⟩ (c_X11_append l D cA ad2 N (xs (j + 1)) r2) (cwV 1 hts gL_law_X11_append rfl rfl rfl (by decide +kernel) ⟨(Nat.le_of_ble_eq_true rfl), (Nat.le_of_ble_eq_true rfl)⟩) (xpreV hK hX.2.1 (k := 0) rfl (by decide) rfl) rfl rfl hl.1 rfl (lv_room (Nat.le_of_ble_eq_true rfl)) dL_law_470 ⟨(Nat.le_of_ble_eq_true rfl), (Nat.le_of_ble_eq_true rfl)⟩) hX (fun H locs hX => ?_)
  refine lv_icmp_eq (tgt := 976) hx hb dL_law_473 (by decide) (fun _ => ?_) (fun c1 => absurd rfl c1)
  exact kk ad ad2 M2 N2 H locs ls hR2 hX hl

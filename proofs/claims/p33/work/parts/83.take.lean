/-! A SHOT TAKEN -/
theorem take_fin {X Y Xf Yf : Mm} {n i : Nat} {u v x4 : Int32} (h : Rel X Y) (hA : PA n X.1 (Y.1 1)) (hi : i < n) (hu : shOK (X.1 (2 + 2 * i) 4) u) (hv : shOK (X.1 (2 + 2 * i) 4) v)
    (xf : Xf.1 (3 + 2 * i) 0 = 1 ∧ Xf.1 (3 + 2 * i) 1 = u ∧ Xf.1 (3 + 2 * i) 2 = v ∧ Xf.1 (3 + 2 * i) 3 = x4) (xo : ∀ k, k ≠ 3 + 2 * i → Xf.1 k = X.1 k) (x2 : Xf.2 = X.2)
    (yf : Yf.1 1 (16 * i + 13) = u ∧ Yf.1 1 (16 * i + 14) = v ∧ Yf.1 1 (16 * i + 15) = x4) (yk : ∀ k, k < 16 * i + 13 ∨ 16 * i + 16 ≤ k → Yf.1 1 k = Y.1 1 k) (yo : ∀ a, a ≠ 1 → Yf.1 a = Y.1 a) (y2 : Yf.2 = Y.2) : PA n Xf.1 (Yf.1 1) ∧ Rel Xf Yf ∧ (∀ k, 28 ≤ k → Xf.1 k = X.1 k) ∧ ∀ a, a ≠ 1 → Yf.1 a = Y.1 a := by
  obtain ⟨hn, hx, hy, hp, hq⟩ := id hA
  have hA' : PA n Xf.1 (Yf.1 1) := by
    refine ⟨hn, (congrFun (xo 0 (by omega)) 1).trans hx, (yk 64 (by omega)).trans hy, fun j hj => ?_, fun j h1 h2 => ?_⟩
    · rw [xo (2 + 2 * j) (by omega)]
      by_cases e : j = i
      · subst e
        obtain ⟨l0, ⟨p0, p1, p2, p3, p4⟩, l1, l2, ⟨p8, p9, p10, p11, p12⟩, -⟩ := hp j hj
        have r : ∀ m, m < 13 → Yf.1 1 (16 * j + m) = Y.1 1 (16 * j + m) := fun m hm => yk _ (by omega)
        unfold PL
        simp only [r 0 (by decide), r 1 (by decide), r 2 (by decide), r 3 (by decide), r 4 (by decide), r 5 (by decide), r 6 (by decide), r 7 (by decide), r 8 (by decide), r 9 (by decide), r 10 (by decide), r 11 (by decide), r 12 (by decide), xf.1, xf.2.1, xf.2.2.1, xf.2.2.2, yf.1, yf.2.1, yf.2.2]
        exact ⟨l0, ⟨p0, p1, p2, p3, p4⟩, l1, l2, ⟨p8, p9, p10, p11, p12⟩, Or.inr ⟨by trivial, by trivial, by trivial, by trivial, hu, hv⟩⟩
      · rw [xo (3 + 2 * j) (by omega)]
        exact PL_congr (fun _ _ => rfl) (fun _ _ => rfl) (fun m hm => yk _ (by omega)) (hp j hj)
    · rw [xo (2 + 2 * j) (by omega), xo (3 + 2 * j) (by omega)]
      exact hq j h1 h2
  refine ⟨hA', Rel.of ?_ (Rest_pages (fun k hk => ⟨xo k (by omega), congrFun x2 k⟩) yo (fun a _ => congrFun y2 a) h.rest), fun k hk => xo k (by omega), yo⟩
  rw [x2, y2]
  exact PG_pa h.pg (fun j _ => congrFun (xo 0 (by omega)) j) (fun o h1 h2 => xo o (by omega)) (fun k h1 h2 => yk k (by omega)) ⟨n, hA'⟩
theorem told_r {X : Mm} {r : Int32} (hr : f_X8_toldShots X = some r) : 0 ≤ r := by
  let g : Nat → Int32 := fun i => if X.1 (3 + 2 * i) 0 = 0 then 0 else 1
  have e : f_X8_toldShots X = some (sm g 4) := by
    unfold f_X8_toldShots
    rw [lpSum (L := fun f v x => f_X8_toldShots_L13 X f v x) g 4 (by decide) (fun f v => by rw [f_X8_toldShots_L13, if_pos (show (4 : Int32) ≤ nI 4 by decide)]) (fun f i v hi => by
      rw [f_X8_toldShots_L13, if_neg (show ¬ (4 : Int32) ≤ nI i from nI_ge hi (by decide)), chk_p (inb_n hi (by decide)), show rid 50 1 (ix (nI i)) + 1 = 3 + 2 * i by rw [show rid 50 1 (ix (nI i)) = 0 + (2 + 2 * i) from rid50 (a := 0) hi]; omega]
      unfold f_X10_asNumber
      rw [ob1_if, lt1_s, lt1_s, nI_succ]
      rfl)]
    rfl
  rw [e] at hr
  rw [← Option.some.inj hr]
  have z : ∀ i, g i = 0 ∨ g i = 1 := fun i => by
    show (if X.1 (3 + 2 * i) 0 = 0 then (0 : Int32) else 1) = 0 ∨ (if X.1 (3 + 2 * i) 0 = 0 then (0 : Int32) else 1) = 1
    by_cases c : X.1 (3 + 2 * i) 0 = 0
    · exact Or.inl (if_pos c)
    · exact Or.inr (if_neg c)
  show (0 : Int32) ≤ 0 + g 0 + g 1 + g 2 + g 3
  rcases z 0 with a | a <;> rcases z 1 with b | b <;> rcases z 2 with c | c <;> rcases z 3 with d | d <;> (rw [a, b, c, d]; decide)
theorem s_takes {X Y : Mm} {n i : Nat} {x2 x3 x4 : Int32} (h : Rel X Y) (hA : PA n X.1 (Y.1 1)) (hi : i < n) (hu : shOK (X.1 (2 + 2 * i) 4) x2) (hv : shOK (X.1 (2 + 2 * i) 4) x3) (hp : f_X8_pathAt (nI i) X = some (some (2 + 2 * i))) (hf : f_X10_shotFault (nI i) x2 x3 x4 X = some 0) :
    ∃ r X' Y', f_X10_takeShot (nI i) x2 x3 x4 X = some (r, X') ∧ f_X11_shoots (nI i) x2 x3 x4 Y = some (r, Y') ∧ Rel X' Y' ∧ ((∀ k, 28 ≤ k → X'.1 k = X.1 k) ∧ ∀ a, a ≠ 1 → Y'.1 a = Y.1 a) ∧ 0 ≤ r := by
  have i4 : i < 4 := by have := hA.1; omega
  obtain ⟨-, -, -, -, ⟨w0, w1⟩, -⟩ := h.pg
  have c3 : 2 + 2 * i + 1 = 3 + 2 * i := by omega
  unfold f_X10_takeShot f_X11_shoots f_X8_tellShot
  rw [hf, ob1_s, if_pos rfl, hp, ob1_s, onl_s, chk_p (ks_path i4), c3]
  simp only [lt1_s]
  simp (disch := omega) only [gI_o]
  rcases w1 with c | c
  · have c' : gI Y 1 83 = 0 := w0.trans c
    rw [show gI X 0 4 = 0 from c, if_pos rfl, ob1_s, if_pos rfl, ob1_s, ob1_s, c', show (13 : Int32) + 0 = 13 by decide, ylay13 i4, ob1_s, gI_k (by omega), c', show (14 : Int32) - 0 = 14 by decide, ylay14 i4, ob1_s, ylay15 i4, ob1_s]
    obtain ⟨hA', hR⟩ := take_fin (x4 := x4) (Xf := wI (wI (wI (wI X (3 + 2 * i) 0 1) (3 + 2 * i) 1 x2) (3 + 2 * i) 2 x3) (3 + 2 * i) 3 x4) (Yf := wI (wI (wI Y 1 (16 * i + 13) x2) 1 (16 * i + 14) x3) 1 (16 * i + 15) x4) h hA hi hu hv (by simp only [wI_1, true_and, Nat.reduceEqDiff, if_true, if_false, and_self]) (fun k hk => by rw [wI_o hk, wI_o hk, wI_o hk, wI_o hk]) rfl (by simp only [wI_1, true_and, Nat.reduceEqDiff, Nat.add_left_cancel_iff, if_true, if_false, and_self]) (fun k hk => by rw [wI_k (by omega), wI_k (by omega), wI_k (by omega)]) (fun a ha => by rw [wI_o ha, wI_o ha, wI_o ha]) rfl
    obtain ⟨r, r1, r2⟩ := s_told4 hA'
    rw [r1, r2, ob1_s, ob1_s]
    exact ⟨r, _, _, rfl, rfl, hR.1, hR.2, told_r r1⟩
  · have c' : gI Y 1 83 = 1 := w0.trans c
    rw [show gI X 0 4 = 1 from c, if_neg one_0, ob1_s, if_neg one_0, ob1_s, ob1_s, c', show (13 : Int32) + 1 = 14 by decide, ylay14 i4, ob1_s, gI_k (by omega), c', show (14 : Int32) - 1 = 13 by decide, ylay13 i4, ob1_s, ylay15 i4, ob1_s]
    obtain ⟨hA', hR⟩ := take_fin (x4 := x4) (Xf := wI (wI (wI (wI X (3 + 2 * i) 0 1) (3 + 2 * i) 1 x3) (3 + 2 * i) 2 x2) (3 + 2 * i) 3 x4) (Yf := wI (wI (wI Y 1 (16 * i + 14) x2) 1 (16 * i + 13) x3) 1 (16 * i + 15) x4) h hA hi hv hu (by simp only [wI_1, true_and, Nat.reduceEqDiff, if_true, if_false, and_self]) (fun k hk => by rw [wI_o hk, wI_o hk, wI_o hk, wI_o hk]) rfl (by simp only [wI_1, true_and, Nat.reduceEqDiff, Nat.add_left_cancel_iff, if_true, if_false, and_self]) (fun k hk => by rw [wI_k (by omega), wI_k (by omega), wI_k (by omega)]) (fun a ha => by rw [wI_o ha, wI_o ha, wI_o ha]) rfl
    obtain ⟨r, r1, r2⟩ := s_told4 hA'
    rw [r1, r2, ob1_s, ob1_s]
    exact ⟨r, _, _, rfl, rfl, hR.1, hR.2, told_r r1⟩
theorem s_shot (x1 x2 x3 x4 : Int32) {X Y : Mm} (h : Rel X Y) : ∃ r X' Y', f_X10_shot x1 x2 x3 x4 X = some (r, X') ∧ f_X11_shot x1 x2 x3 x4 Y = some (r, Y') ∧ Rel X' Y' := by
  obtain ⟨⟨n, hA⟩, -⟩ := h.pg
  unfold f_X10_shot f_X11_shot
  rcases s_why hA x1 x2 x3 x4 with ⟨i, hi, rfl, cd, pa, w1, w2⟩ | ⟨r, hr, w1, w2⟩
  · rw [w1, w2, ob1_s, ob1_s, if_pos rfl, if_pos (Int32.le_refl _)]
    obtain ⟨X1, Y1, p1, p2, kx, ky, h1⟩ := s_push h
    obtain ⟨⟨n', hA1⟩, -⟩ := h1.pg
    obtain rfl : n' = n := (nI_eq (by have := hA1.1; omega) (by have := hA.1; omega)).mp (hA1.2.1.symm.trans ((congrFun ((kx 0 (by omega)).1 (by decide)) 1).trans hA.2.1))
    rw [p1, p2, ob1_s, ob1_s]
    have i4 : i < 4 := by have := hA.1; omega
    have e4 : X1.1 (2 + 2 * i) 4 = X.1 (2 + 2 * i) 4 := congrFun ((kx _ (by omega)).1 (by omega)) 4
    have pa1 : f_X8_pathAt (nI i) X1 = some (some (2 + 2 * i)) := by
      rw [← pa]
      unfold f_X8_pathAt
      rw [show gI X1 0 1 = gI X 0 1 from congrFun ((kx 0 (by omega)).1 (by decide)) 1]
    obtain ⟨⟨-, -, -, d0, d1⟩, -⟩ := hA1.2.2.2.1 i hi
    rw [← e4] at cd
    rcases x_why i4 pa1 d0 d1 x2 x3 x4 with ⟨-, u4⟩ | ⟨q, -⟩
    · obtain ⟨r, X', Y', q1, q2, q3⟩ := s_takes h1 hA1 hi cd.1 cd.2.1 pa1 u4
      rw [q1, q2, ob2_s, ob2_s]
      exact ⟨r, _, _, rfl, rfl, q3.1⟩
    · exact absurd cd q
  · rw [w1, w2, ob1_s, ob1_s, if_neg (by rcases hr with rfl | rfl <;> decide), if_neg (by rcases hr with rfl | rfl <;> decide)]
    exact ⟨r, _, _, rfl, rfl, h⟩

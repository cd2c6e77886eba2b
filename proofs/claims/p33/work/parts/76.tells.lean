/-! CLOSING, 2: one path of the reference -/
theorem yo10 {i : Nat} (hi : i < 4) {Y : Mm} : f_X11_of (nI i) (10 : Int32) Y = some (gI Y 1 (16 * i + 10)) := y_of (j := 10) hi (by decide)
theorem yo11 {i : Nat} (hi : i < 4) {Y : Mm} : f_X11_of (nI i) (11 : Int32) Y = some (gI Y 1 (16 * i + 11)) := y_of (j := 11) hi (by decide)
theorem yo12 {i : Nat} (hi : i < 4) {Y : Mm} : f_X11_of (nI i) (12 : Int32) Y = some (gI Y 1 (16 * i + 12)) := y_of (j := 12) hi (by decide)
def tlY (N Z : Mm) (i : Nat) (o v c : Int32) : Mm := wI (wI (wI (wI (wI Z 1 (16 * i + 8) o) 1 (16 * i + 9) v) 1 (16 * i + 10) c) 1 (16 * i + 11) (gI N 1 (16 * i + 11) + if o = 3 then 1 else 0)) 1 (16 * i + 12) (gI N 1 (16 * i + 12) + if o = 2 then 1 else 0)
theorem y_13 {α : Type} {N : Mm} {i : Nat} {v : Int32} {k : Int32 → Option α} (hv : (gI N 0 16 = 0 ∧ v = -2000000005) ∨ (¬ gI N 0 16 = 0 ∧ ((gI N 13 i = 0 ∧ v = -2000000005) ∨ (¬ gI N 13 i = 0 ∧ Int64.toInt32 (gJ N 12 i) = v)))) :
    ob1 (if gI N 0 16 = 0 then some (-2000000005 : Int32) else if gI N 13 i = 0 then some (-2000000005 : Int32) else some (Int64.toInt32 (gJ N 12 i))) k = k v := by
  rcases hv with ⟨h1, h2⟩ | ⟨h1, ⟨h2, h3⟩ | ⟨h2, h3⟩⟩
  · rw [if_pos h1, ob1_s, h2]
  · rw [if_neg h1, if_pos h2, ob1_s, h3]
  · rw [if_neg h1, if_neg h2, ob1_s, h3]
theorem y_tells {N : Mm} {i : Nat} (hi : i < 4) {v t0 t1 : Int32} (hv : (gI N 0 16 = 0 ∧ v = -2000000005) ∨ (¬ gI N 0 16 = 0 ∧ ((gI N 13 i = 0 ∧ v = -2000000005) ∨ (¬ gI N 13 i = 0 ∧ Int64.toInt32 (gJ N 12 i) = v))))
    (ht : ¬ gI N 9 i < 3 → f_X11_timeOf (nI i) 0 N = some (Int32.toInt64 t0) ∧ f_X11_timeOf (nI i) 1 N = some (Int32.toInt64 t1)) :
    f_X11_tells (nI i) N =
    (if gI N 9 i < 3 then some (tlY N N i (gI N 9 i) v (gI N 1 (16 * i + 10) + 1)) else
     if gJ N 0 19 = 0 then some (tlY N (wI (wI N 1 (16 * i + 5) t0) 1 (16 * i + 6) t1) i (gI N 9 i) v 0) else
     ob1 (f_X11_held (gJ N 12 i * 1000 / gJ N 0 19) 5000 (wI (wI N 1 (16 * i + 5) t0) 1 (16 * i + 6) t1)) fun r => some (tlY N (wI (wI (wI N 1 (16 * i + 5) t0) 1 (16 * i + 6) t1) 1 (16 * i + 7) (Int64.toInt32 r)) i (gI N 9 i) v 0)) := by
  have tt : ∀ t : Int32, Int64.toInt32 (Int32.toInt64 t) = t := fun t => by rw [i_eq, Int64.toInt_toInt32, Int32.toInt_toInt64]; have := i_rng t; rw [fb_bmod (by omega) (by omega)]
  unfold f_X11_tells
  rw [chk_p (inb_n hi (by decide)), ix_n (show i < 2 ^ 31 by omega)]
  by_cases c : gI N 9 i < 3
  · rw [if_pos c, if_pos c, ob1_s, if_pos rfl, ob1_s, if_pos rfl, ob1_s, chk_p (inb_n hi (by decide)), ylay8 hi, ob1_s]
    simp (disch := omega) only [chk_p (inb_n hi (show 4 < 2 ^ 31 by decide)), gI_o, gJ_wI, y_13 hv, ylay9 hi, ylay10 hi, ylay11 hi, ylay12 hi, ob1_s, yo10 hi, yo11 hi, yo12 hi, gI_k, ob1_if, if_pos (show (0 : Int32) = 0 from rfl)]
    rfl
  · obtain ⟨h0, h1⟩ := ht c
    rw [if_neg c, if_neg c, ob1_s, if_neg one_0, h0, ob1_s, lt1_s, h1, ob1_s, lt1_s, tt, tt, ylay5 hi, ob1_s, ylay6 hi, ob1_s, ob1_s, if_neg one_0]
    by_cases d : gJ N 0 19 = 0
    · rw [if_pos (show gJ (wI (wI N 1 (16 * i + 5) t0) 1 (16 * i + 6) t1) 0 19 = 0 from d), if_pos d, ob1_s]
      simp (disch := omega) only [chk_p (inb_n hi (show 4 < 2 ^ 31 by decide)), ylay8 hi, gI_o, gJ_wI, y_13 hv, ylay9 hi, ylay10 hi, ylay11 hi, ylay12 hi, ob1_s, yo10 hi, yo11 hi, yo12 hi, gI_k, ob1_if, if_neg one_0]
      rfl
    · rw [if_neg (show ¬ gJ (wI (wI N 1 (16 * i + 5) t0) 1 (16 * i + 6) t1) 0 19 = 0 from d), if_neg d, chk_p (inb_n hi (by decide)), chk_p (show decide (¬ gJ (wI (wI N 1 (16 * i + 5) t0) 1 (16 * i + 6) t1) 0 19 = 0) = true from decide_eq_true d), show gJ (wI (wI N 1 (16 * i + 5) t0) 1 (16 * i + 6) t1) 0 19 = gJ N 0 19 from rfl, show gJ (wI (wI N 1 (16 * i + 5) t0) 1 (16 * i + 6) t1) 12 i = gJ N 12 i from rfl]
      obtain ⟨r, e, -⟩ := lim_held5 (X := N) (Y := wI (wI N 1 (16 * i + 5) t0) 1 (16 * i + 6) t1) (x := gJ N 12 i * 1000 / gJ N 0 19)
      rw [e, ob1_s, ob1_s, ylay7 hi, ob1_s, ob1_s]
      simp (disch := omega) only [chk_p (inb_n hi (show 4 < 2 ^ 31 by decide)), ylay8 hi, gI_o, gJ_wI, y_13 hv, ylay9 hi, ylay10 hi, ylay11 hi, ylay12 hi, ob1_s, yo10 hi, yo11 hi, yo12 hi, gI_k, ob1_if, if_neg one_0]
      rfl

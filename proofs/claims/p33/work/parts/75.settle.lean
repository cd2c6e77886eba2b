/-! CLOSING, 1: one path -/
theorem lim_held5 {x : Int64} {X Y : Mm} : ∃ v : Int64, f_X11_held x 5000 Y = some v ∧ f_X10_limited x 5000 X = some v.toInt32 ∧ -5000 ≤ v.toInt32 ∧ v.toInt32 ≤ 5000 := by
  unfold f_X11_held f_X10_limited
  rw [show Int32.toInt64 (5000 : Int32) = (5000 : Int64) from rfl, show Int32.toInt64 (-(5000 : Int32)) = (-5000 : Int64) from rfl]
  by_cases h : x ≤ 5000
  · rw [if_pos h, if_pos h]
    by_cases h2 : (-5000 : Int64) ≤ x
    · rw [if_pos (show -(5000 : Int64) ≤ x from h2), if_pos h2]
      rw [j_le] at h h2
      have e1 : (5000 : Int64).toInt = 5000 := rfl
      have e2 : (-5000 : Int64).toInt = -5000 := rfl
      have e3 : x.toInt32.toInt = x.toInt := by rw [Int64.toInt_toInt32, fb_bmod (by omega) (by omega)]
      refine ⟨x, rfl, rfl, ?_, ?_⟩
      · rw [i_le, e3]; have : (-5000 : Int32).toInt = -5000 := rfl; omega
      · rw [i_le, e3]; have : (5000 : Int32).toInt = 5000 := rfl; omega
    · rw [if_neg (show ¬ -(5000 : Int64) ≤ x from h2), if_neg h2]
      exact ⟨-5000, rfl, rfl, by decide, by decide⟩
  · rw [if_neg h, if_neg h]
    exact ⟨5000, rfl, rfl, by decide, by decide⟩
theorem asn {α : Type} {c : Prop} [Decidable c] {M : Mm} {k : Int32 → Option α} : ob1 (if c then some (1 : Int32) else some (0 : Int32)) (fun y => ob1 (f_X10_asNumber y M) k) = k (if c then 1 else 0) := by
  by_cases h : c
  · rw [if_pos h, if_pos h]; rfl
  · rw [if_neg h, if_neg h]; rfl
theorem gI_o {M : Mm} {a k b j : Nat} {v : Int32} (h : b ≠ a) : gI (wI M a k v) b j = gI M b j := if_neg (fun q => h q.1)
theorem gI_k {M : Mm} {a k j : Nat} {v : Int32} (h : j ≠ k) : gI (wI M a k v) a j = gI M a j := if_neg (fun q => h q.2)
theorem x_setPath {M : Mm} {i : Nat} (hi : i < 4) (hc : ∀ Z, f_X10_contains (gI M 232 6) (nI i) Z = some (if gI M 236 i < 3 then 0 else 1)) : f_X2_settlePath (2 + 2 * i) (nI i) M =
    (let a := 2 + 2 * i
     let M8 := wI (wI (wI (wI M a 10 (gI M 236 i)) a 11 (gI M 237 i)) a 13 (gI M a 13 + if gI M 236 i = 3 then 1 else 0)) a 14 (gI M a 14 + if gI M 236 i = 2 then 1 else 0)
     if gI M 236 i < 3 then some (wI M8 a 12 (gI M a 12 + 1)) else
     let M13 := wI (wI (wI (wI M8 a 12 0) a 5 1) a 6 (gI M (a + 1) 1 - gI M 234 i * gI M a 3)) a 7 (gI M (a + 1) 2 - gI M 235 i * gI M a 3)
     if gI M 232 9 = 0 then some M13 else
     ob1 (f_X10_limited (Int32.toInt64 (gI M 237 i) * 1000 / Int32.toInt64 (gI M 232 9)) 5000 M13) fun r => some (wI (wI M13 a 8 1) a 9 r)) := by
  unfold f_X2_settlePath
  rw [if_neg (show ¬ nI i < 0 from fun z => nI_in (N := 4) hi (by decide) (Or.inl z)), if_pos (show nI i < (4 : Int32) from i_nle (nI_ge hi (by decide)))]
  simp only [chk_p (inb_n hi (show 4 < 2 ^ 31 by decide)), ix_n (show i < 2 ^ 31 by omega), lt1_s, asn]
  simp (disch := omega) only [gI_o, gI_k]
  rw [hc, ob1_s]
  by_cases c : gI M 236 i < 3
  · rw [if_pos c, if_pos c, if_pos rfl]
  · rw [if_neg c, if_neg c, if_neg one_0]
    by_cases d : gI M 232 9 = 0
    · rw [if_pos d, if_pos d]
    · have d2 : ¬ Int32.toInt64 (gI M 232 9) = 0 := fun q => d (by
        rw [j_eq, Int32.toInt_toInt64] at q
        rw [i_eq]
        exact q)
      rw [if_neg d, if_neg d, quot d2, ob1_s]
      rfl

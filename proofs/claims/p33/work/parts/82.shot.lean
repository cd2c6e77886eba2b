/-! CLOSE, and the shots -/
theorem closeRound_cl {M : Mm} (h : ¬ gI M 0 1 = 0) : f_X10_closeRound M = clX M := by
  unfold f_X10_closeRound
  rw [if_neg h]
  rfl
theorem s_close {X Y : Mm} (h : Rel X Y) : ∃ r X' Y', f_X10_close X = some (r, X') ∧ f_X11_close Y = some (r, Y') ∧ Rel X' Y' := by
  obtain ⟨⟨n, hn, hx, hy, -⟩, -⟩ := h.pg
  unfold f_X10_close f_X11_close
  rw [show gI X 0 1 = nI n from hx, show gI Y 1 64 = nI n from hy]
  by_cases c : nI n = 0
  · rw [if_pos c, if_pos c]
    exact ⟨_, _, _, rfl, rfl, h⟩
  · rw [if_neg c, if_neg c]
    obtain ⟨X1, Y1, p1, p2, kx, ky, h1⟩ := s_push h
    have e : gI X1 0 1 = nI n := (congrFun ((kx 0 (by omega)).1 (by decide)) 1).trans hx
    rw [p1, p2, ob1_s, ob1_s, closeRound_cl (by rw [e]; exact c)]
    obtain ⟨r, X', Y', q1, q2, q3⟩ := s_closes h1
    rw [q1, q2, ob2_s, ob2_s]
    exact ⟨r, X', Y', rfl, rfl, q3.1⟩

section TEXT6
variable {x X fc fR fr : Nat → Int32} {L : Nat}
def xZ (x : Nat → Int32) : Nat → Int32 := upd (upd (upd (upd (upd x 2 0) 7 (-1)) 8 (-1)) 9 (-1)) 10 0
set_option maxHeartbeats 100000 in
theorem rd_R : s_X9_read_r x fc = (if s_X9_readPlant_r (xZ x) fc = 0 then (s_X9_readPlant_w0 (xZ x) fc) 2 else rdR fc (0 + 1 + 1 + 1 + 1) (s_X9_readPlant_w0 (xZ x) fc)) := by
  unfold s_X9_read_r xZ
  try dsimp only
  rw [rdR, rdR, rdR, rdR, rdR]
set_option maxHeartbeats 100000 in
theorem rd_W : s_X9_read_w0 x fc = (if s_X9_readPlant_r (xZ x) fc = 0 then (s_X9_readPlant_w0 (xZ x) fc) else rdW fc (0 + 1 + 1 + 1 + 1) (s_X9_readPlant_w0 (xZ x) fc)) := by
  unfold s_X9_read_w0 xZ
  try dsimp only
  rw [rdW, rdW, rdW, rdW, rdW]
/-- what a text that can be read leaves on both sides -/
def rdQ (w F fr : Nat → Int32) : Prop := ∃ u1 u2 u3 u4, (bI u1 1 20 ∧ bI u2 1 50 ∧ bI u3 0 9 ∧ bI u4 1 99) ∧ (w 3 = u1 ∧ w 4 = u2 ∧ w 5 = u3 ∧ w 6 = u4) ∧ ∃ a b c d v, F = upd v 12 (v 3) ∧ prA a (w 10) (w 11) (v 3) ∧ bI (v 3) (-99) 99 ∧ prB b (w 7) 100 (v 5) ∧ prB c (w 8) 3 (v 6) ∧ prB d (w 9) 20 (v 7) ∧ ∀ j, j ≠ 3 → j ≠ 5 → j ≠ 6 → j ≠ 7 → v j = (upd (upd (upd (upd (s_X12_begin_w0 fr) 0 u1) 1 u2) 2 u3) 4 u4) j
theorem bg_3 : s_X12_begin_w0 fr 3 = 20 ∧ s_X12_begin_w0 fr 5 = 100 ∧ s_X12_begin_w0 fr 6 = 3 ∧ s_X12_begin_w0 fr 7 = 20 := ⟨rfl, rfl, rfl, rfl⟩
theorem read_rel (hb : tpB L fc fR) (h1 : x 1 = nI L) (h2 : X 2 = nI L) : s_X9_read_w0 x fc 1 = nI L ∧ (∀ i, i ≠ 3 → s_X12_readAll_w0 X fR fr i = X i) ∧ ((s_X12_readAll_r X fR fr = 0 ∧ ∃ q, q ≤ L ∧ s_X9_read_r x fc = nI q ∧ s_X12_readAll_w0 X fR fr 3 = nI q) ∨ (s_X12_readAll_r X fR fr = 1 ∧ s_X9_read_r x fc = -99999 ∧ rdQ (s_X9_read_w0 x fc) (s_X12_readAll_w2 X fR fr) fr)) := by
  have hL := hb.1
  have h0 : tpR L 0 (xZ x) (XA X) := by
    refine ⟨?_, ?_, (upd_ne (by decide)).trans h2, upd_at _ _ _, Nat.zero_le _⟩
    · unfold xZ
      rw [upd_ne (by decide), upd_ne (by decide), upd_ne (by decide), upd_ne (by decide), upd_ne (by decide), h1]
    · unfold xZ
      rw [upd_ne (by decide), upd_ne (by decide), upd_ne (by decide), upd_ne (by decide), upd_at]
      rfl
  rw [rd_R, rd_W]
  rcases plant_rel (fr := fr) hb h0 with ⟨p0, a0, ⟨q, q1, q2, q3⟩, p1, pf⟩ | ⟨p0, ⟨a0, a1, a2⟩, ⟨q, t⟩, pX, pf, u1, u2, u3, u4, bs, us, gs⟩
  · rw [if_pos p0, if_pos p0]
    exact ⟨p1, pf, Or.inl ⟨a0, q, q1, q2, q3⟩⟩
  · have n0 : ¬ s_X9_readPlant_r (xZ x) fc = 0 := by rw [p0]; decide
    rw [if_neg n0, if_neg n0, a0, a1, a2, gs]
    have et : (0 : Int32) = td false false false false := rfl
    obtain ⟨b3, b5, b6, b7⟩ := bg_3 (fr := fr)
    have k := loop_rel (Xs := X) (xs := s_X9_readPlant_w0 (xZ x) fc) (g0 := upd (upd (upd (upd (s_X12_begin_w0 fr) 0 u1) 1 u2) 2 u3) 4 u4) hb (0 + 1 + 1 + 1 + 1) 16 false false false false q (s_X9_readPlant_w0 (xZ x) fc) (XE fR X) (upd (upd (upd (upd (s_X12_begin_w0 fr) 0 u1) 1 u2) 2 u3) 4 u4) rfl (by decide) t pX ?_
    · rw [← et] at k
      obtain ⟨k1, k2, ⟨k3, k4⟩ | ⟨k3, k4, a, b, c, d, v, k5, k6⟩⟩ := k
      · exact ⟨k1, k2, Or.inl ⟨k3, k4⟩⟩
      · obtain ⟨s1, s2, s3, s4, s5, s6, s7⟩ := k6
        exact ⟨k1, k2, Or.inr ⟨k3, k4, u1, u2, u3, u4, bs, ⟨(s6 3 (by decide) (by decide)).trans us.1, (s6 4 (by decide) (by decide)).trans us.2.1, (s6 5 (by decide) (by decide)).trans us.2.2.1, (s6 6 (by decide) (by decide)).trans us.2.2.2⟩, a, b, c, d, v, k5, s1, s2, s3, s4, s5, s7⟩⟩
    · have f3 : (upd (upd (upd (upd (s_X12_begin_w0 fr) 0 u1) 1 u2) 2 u3) 4 u4) 3 = 20 := by rw [upd_ne (by decide), upd_ne (by decide), upd_ne (by decide), upd_ne (by decide), b3]
      have f5 : (upd (upd (upd (upd (s_X12_begin_w0 fr) 0 u1) 1 u2) 2 u3) 4 u4) 5 = 100 := by rw [upd_ne (by decide), upd_ne (by decide), upd_ne (by decide), upd_ne (by decide), b5]
      have f6 : (upd (upd (upd (upd (s_X12_begin_w0 fr) 0 u1) 1 u2) 2 u3) 4 u4) 6 = 3 := by rw [upd_ne (by decide), upd_ne (by decide), upd_ne (by decide), upd_ne (by decide), b6]
      have f7 : (upd (upd (upd (upd (s_X12_begin_w0 fr) 0 u1) 1 u2) 2 u3) 4 u4) 7 = 20 := by rw [upd_ne (by decide), upd_ne (by decide), upd_ne (by decide), upd_ne (by decide), b7]
      have z7 : xZ x 7 = -1 := by
        unfold xZ
        rw [upd_ne (by decide), upd_ne (by decide), upd_ne (by decide), upd_at]
      have z8 : xZ x 8 = -1 := by
        unfold xZ
        rw [upd_ne (by decide), upd_ne (by decide), upd_at]
      have z9 : xZ x 9 = -1 := by
        unfold xZ
        rw [upd_ne (by decide), upd_at]
      have z10 : xZ x 10 = 0 := by
        unfold xZ
        rw [upd_at]
      refine ⟨Or.inl ⟨rfl, (pf 10 (by decide)).trans z10, f3⟩, ?_, Or.inl ⟨rfl, (pf 7 (by decide)).trans z7, f5⟩, Or.inl ⟨rfl, (pf 8 (by decide)).trans z8, f6⟩, Or.inl ⟨rfl, (pf 9 (by decide)).trans z9, f7⟩, fun _ _ _ => rfl, fun _ _ _ _ _ => rfl⟩
      rw [f3]
      exact ⟨by decide, by decide⟩
end TEXT6
section LOADR
variable {z : Nat → Nat → Int32} {w F0 fr : Nat → Int32} {N : Nat}
theorem pb_sel {b : Bool} {v dv u : Int32} {z3 : Nat → Int32} {k : Nat} (h : prB b v dv u) (hz : z3 k = dv) : ∀ i, (if v = -1 then z3 else upd z3 k v) i = if i = k then u else z3 i := by
  intro i
  rcases h with ⟨-, e, eu⟩ | ⟨-, e, eu⟩
  · rw [if_pos e]
    by_cases c : i = k
    · rw [if_pos c, c, hz, eu]
    · rw [if_neg c]
  · rw [if_neg e, eu]
    rfl
theorem put1 {u : Int32} (h10 : ∃ a v3, prA a (w 10) (w 11) v3 ∧ v3 = u ∧ z 1 3 = 20) : (s_X9_putInto_z w z 1) 0 = w 3 ∧ (s_X9_putInto_z w z 1) 1 = w 4 ∧ (s_X9_putInto_z w z 1) 2 = w 5 ∧ (s_X9_putInto_z w z 1) 3 = u ∧ (s_X9_putInto_z w z 1) 4 = w 6 ∧ (s_X9_putInto_z w z 1) 5 = u ∧ (s_X9_putInto_z w z 1) 7 = z 1 7 := by
  obtain ⟨a, v3, h, rfl, h3⟩ := h10
  have e : s_X9_putInto_z w z 1 = upd (if (w 10) = 0 then (upd (upd (upd (upd (z 1) 0 (w 3)) 1 (w 4)) 2 (w 5)) 4 (w 6)) else (upd (upd (upd (upd (upd (z 1) 0 (w 3)) 1 (w 4)) 2 (w 5)) 4 (w 6)) 3 (w 11))) 5 ((if (w 10) = 0 then (upd (upd (upd (upd (z 1) 0 (w 3)) 1 (w 4)) 2 (w 5)) 4 (w 6)) else (upd (upd (upd (upd (upd (z 1) 0 (w 3)) 1 (w 4)) 2 (w 5)) 4 (w 6)) 3 (w 11))) 3) := rfl
  rw [e]
  rcases h with ⟨-, t, q⟩ | ⟨-, t, q⟩
  · rw [if_pos t, q]
    exact ⟨rfl, rfl, rfl, h3, rfl, h3, rfl⟩
  · rw [if_neg (by rw [t]; decide), q]
    exact ⟨rfl, rfl, rfl, rfl, rfl, rfl, rfl⟩
end LOADR

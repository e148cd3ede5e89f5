section TEXT3
variable {x X fc fR fr g : Nat → Int32} {L p pl k : Nat} {a b lo hi : Int32}
theorem upd_at (f : Nat → Int32) (k : Nat) (v : Int32) : upd f k v k = v := if_pos rfl
theorem nI_m1 {n : Nat} (h : n < 5000) : ¬ nI n = -1 := fun q => by
  have q2 := congrArg Int32.toInt q
  rw [nI_toInt (by omega)] at q2
  have q3 : (-1 : Int32).toInt = -1 := rfl
  omega
def xB (fc x : Nat → Int32) : Nat → Int32 := upd (lbW 71 1 20 fc 2 x) 3 (lbR 71 1 20 fc 2 x)
def xC (fc x : Nat → Int32) : Nat → Int32 := upd (lbW 78 1 50 fc 2 (xB fc x)) 4 (lbR 78 1 50 fc 2 (xB fc x))
def xD (fc x : Nat → Int32) : Nat → Int32 := upd (lbW 76 0 9 fc 1 (xC fc x)) 5 (lbR 76 0 9 fc 1 (xC fc x))
def xE (fc x : Nat → Int32) : Nat → Int32 := upd (lbW 72 1 99 fc 2 (xD fc x)) 6 (lbR 72 1 99 fc 2 (xD fc x))
set_option maxHeartbeats 100000 in
theorem pl_R : s_X9_readPlant_r x fc = (if lbR 71 1 20 fc 2 x = -1 then 0 else if lbR 78 1 50 fc 2 (xB fc x) = -1 then 0 else if lbR 76 0 9 fc 1 (xC fc x) = -1 then 0 else if lbR 72 1 99 fc 2 (xD fc x) = -1 then 0 else 1) := by
  unfold s_X9_readPlant_r
  simp only [lab1.1, lab1.2, lab2.1, lab2.2, xB, xC, xD, xE]
  rfl
set_option maxHeartbeats 100000 in
theorem pl_W : s_X9_readPlant_w0 x fc = (if lbR 71 1 20 fc 2 x = -1 then xB fc x else if lbR 78 1 50 fc 2 (xB fc x) = -1 then xC fc x else if lbR 76 0 9 fc 1 (xC fc x) = -1 then xD fc x else xE fc x) := by
  unfold s_X9_readPlant_w0
  simp only [lab1.1, lab1.2, lab2.1, lab2.2, xB, xC, xD, xE]
  rfl
set_option maxHeartbeats 200000 in
/-- the heater's four numbers on both sides -/
theorem plant_rel (hb : tpB L fc fR) (h : tpR L 0 x (XA X)) : (s_X9_readPlant_r x fc = 0 ∧ s_X12_readAll_r X fR fr = 0 ∧ (∃ q, q ≤ L ∧ s_X9_readPlant_w0 x fc 2 = nI q ∧ s_X12_readAll_w0 X fR fr 3 = nI q) ∧ s_X9_readPlant_w0 x fc 1 = nI L ∧ ∀ i, i ≠ 3 → s_X12_readAll_w0 X fR fr i = X i) ∨ (s_X9_readPlant_r x fc = 1 ∧ (s_X12_readAll_r X fR fr = (RA fR 16 0 (XE fR X) (gE fR X fr)).1 ∧ s_X12_readAll_w0 X fR fr = (RA fR 16 0 (XE fR X) (gE fR X fr)).2.1 ∧ s_X12_readAll_w2 X fR fr = (RA fR 16 0 (XE fR X) (gE fR X fr)).2.2) ∧ (∃ q, tpR L q (s_X9_readPlant_w0 x fc) (XE fR X)) ∧ (∀ i, i ≠ 3 → XE fR X i = X i) ∧ (∀ i, 7 ≤ i → s_X9_readPlant_w0 x fc i = x i) ∧ ∃ u1 u2 u3 u4, (bI u1 1 20 ∧ bI u2 1 50 ∧ bI u3 0 9 ∧ bI u4 1 99) ∧ (s_X9_readPlant_w0 x fc 3 = u1 ∧ s_X9_readPlant_w0 x fc 4 = u2 ∧ s_X9_readPlant_w0 x fc 5 = u3 ∧ s_X9_readPlant_w0 x fc 6 = u4) ∧ gE fR X fr = upd (upd (upd (upd (s_X12_begin_w0 fr) 0 u1) 1 u2) 2 u3) 4 u4) := by
  rw [pl_R, pl_W]
  obtain ⟨⟨q1, -, t1⟩, f1, f1', d1⟩ := lab_rel (a := 71) (lo := 1) (hi := 20) (k := 2) (g := s_X12_begin_w0 fr) (pl := 0) hb h (by decide) (by decide)
  have t1' : tpR L q1 (xB fc x) (XB fR X) := ⟨(upd_ne (by decide)).trans t1.1, (upd_ne (by decide)).trans t1.2.1, t1.2.2.1, t1.2.2.2.1, t1.2.2.2.2⟩
  rcases d1 with ⟨r1, z1⟩ | ⟨R1, w1, r1, z1, g1, b1, b1'⟩
  · rw [if_pos r1, if_pos r1]
    obtain ⟨a1, a2⟩ := all_1 (fr := fr) z1
    exact Or.inl ⟨rfl, a1, ⟨q1, t1'.2.2.2.2, t1'.2.1, by rw [a2]; exact t1'.2.2.2.1⟩, t1'.1, fun i hi => by rw [a2]; exact (f1' i hi).trans (upd_ne hi)⟩
  · have n1 : ¬ lbR 71 1 20 fc 2 x = -1 := by rw [r1]; exact nI_m1 w1
    have c1 : ¬ laR 71 1 20 fR 2 (XA X) = 0 := by rw [z1]; decide
    rw [if_neg n1, if_neg n1]
    obtain ⟨⟨q2, -, t2⟩, f2, f2', d2⟩ := lab_rel (a := 78) (lo := 1) (hi := 50) (k := 2) (g := gB fR X fr) (pl := 1) hb t1' (by decide) (by decide)
    have t2' : tpR L q2 (xC fc x) (XC fR X) := ⟨(upd_ne (by decide)).trans t2.1, (upd_ne (by decide)).trans t2.2.1, t2.2.2.1, t2.2.2.2.1, t2.2.2.2.2⟩
    rcases d2 with ⟨r2, z2⟩ | ⟨R2, w2, r2, z2, g2, b2, b2'⟩
    · rw [if_pos r2, if_pos r2]
      obtain ⟨a1, a2⟩ := all_2 (fr := fr) c1 z2
      exact Or.inl ⟨rfl, a1, ⟨q2, t2'.2.2.2.2, t2'.2.1, by rw [a2]; exact t2'.2.2.2.1⟩, t2'.1, fun i hi => by rw [a2]; exact (f2' i hi).trans ((f1' i hi).trans (upd_ne hi))⟩
    · have n2 : ¬ lbR 78 1 50 fc 2 (xB fc x) = -1 := by rw [r2]; exact nI_m1 w2
      have c2 : ¬ laR 78 1 50 fR 2 (XB fR X) = 0 := by rw [z2]; decide
      rw [if_neg n2, if_neg n2]
      obtain ⟨⟨q3, -, t3⟩, f3, f3', d3⟩ := lab_rel (a := 76) (lo := 0) (hi := 9) (k := 1) (g := gC fR X fr) (pl := 2) hb t2' (by decide) (by decide)
      have t3' : tpR L q3 (xD fc x) (XD fR X) := ⟨(upd_ne (by decide)).trans t3.1, (upd_ne (by decide)).trans t3.2.1, t3.2.2.1, t3.2.2.2.1, t3.2.2.2.2⟩
      rcases d3 with ⟨r3, z3⟩ | ⟨R3, w3, r3, z3, g3, b3, b3'⟩
      · rw [if_pos r3, if_pos r3]
        obtain ⟨a1, a2⟩ := all_3 (fr := fr) c1 c2 z3
        exact Or.inl ⟨rfl, a1, ⟨q3, t3'.2.2.2.2, t3'.2.1, by rw [a2]; exact t3'.2.2.2.1⟩, t3'.1, fun i hi => by rw [a2]; exact (f3' i hi).trans ((f2' i hi).trans ((f1' i hi).trans (upd_ne hi)))⟩
      · have n3 : ¬ lbR 76 0 9 fc 1 (xC fc x) = -1 := by rw [r3]; exact nI_m1 w3
        have c3 : ¬ laR 76 0 9 fR 1 (XC fR X) = 0 := by rw [z3]; decide
        rw [if_neg n3, if_neg n3]
        obtain ⟨⟨q4, -, t4⟩, f4, f4', d4⟩ := lab_rel (a := 72) (lo := 1) (hi := 99) (k := 2) (g := gD fR X fr) (pl := 4) hb t3' (by decide) (by decide)
        have t4' : tpR L q4 (xE fc x) (XE fR X) := ⟨(upd_ne (by decide)).trans t4.1, (upd_ne (by decide)).trans t4.2.1, t4.2.2.1, t4.2.2.2.1, t4.2.2.2.2⟩
        rcases d4 with ⟨r4, z4⟩ | ⟨R4, w4, r4, z4, g4, b4, b4'⟩
        · rw [if_pos r4]
          obtain ⟨a1, a2⟩ := all_4 (fr := fr) c1 c2 c3 z4
          exact Or.inl ⟨rfl, a1, ⟨q4, t4'.2.2.2.2, t4'.2.1, by rw [a2]; exact t4'.2.2.2.1⟩, t4'.1, fun i hi => by rw [a2]; exact (f4' i hi).trans ((f3' i hi).trans ((f2' i hi).trans ((f1' i hi).trans (upd_ne hi))))⟩
        · have n4 : ¬ lbR 72 1 99 fc 2 (xD fc x) = -1 := by rw [r4]; exact nI_m1 w4
          have c4 : ¬ laR 72 1 99 fR 2 (XD fR X) = 0 := by rw [z4]; decide
          rw [if_neg n4]
          refine Or.inr ⟨rfl, ⟨all_o1 c1 c2 c3 c4, all_o2 c1 c2 c3 c4, all_o3 c1 c2 c3 c4⟩, ⟨q4, t4'⟩, fun i hi => (f4' i hi).trans ((f3' i hi).trans ((f2' i hi).trans ((f1' i hi).trans (upd_ne hi)))), fun i hi => ?_, nI R1, nI R2, nI R3, nI R4, ⟨⟨b1, b1'⟩, ⟨b2, b2'⟩, ⟨b3, b3'⟩, ⟨b4, b4'⟩⟩, ⟨?_, ?_, ?_, ?_⟩, ?_⟩
          · have e4 := f4 i (by omega)
            have e3 := f3 i (by omega)
            have e2 := f2 i (by omega)
            have e1 := f1 i (by omega)
            show xE fc x i = x i
            rw [show xE fc x i = lbW 72 1 99 fc 2 (xD fc x) i from upd_ne (by omega), e4, show xD fc x i = lbW 76 0 9 fc 1 (xC fc x) i from upd_ne (by omega), e3, show xC fc x i = lbW 78 1 50 fc 2 (xB fc x) i from upd_ne (by omega), e2, show xB fc x i = lbW 71 1 20 fc 2 x i from upd_ne (by omega), e1]
          · show xE fc x 3 = _
            rw [show xE fc x 3 = lbW 72 1 99 fc 2 (xD fc x) 3 from upd_ne (by decide), f4 3 (by decide), show xD fc x 3 = lbW 76 0 9 fc 1 (xC fc x) 3 from upd_ne (by decide), f3 3 (by decide), show xC fc x 3 = lbW 78 1 50 fc 2 (xB fc x) 3 from upd_ne (by decide), f2 3 (by decide)]
            exact (upd_at _ _ _).trans r1
          · show xE fc x 4 = _
            rw [show xE fc x 4 = lbW 72 1 99 fc 2 (xD fc x) 4 from upd_ne (by decide), f4 4 (by decide), show xD fc x 4 = lbW 76 0 9 fc 1 (xC fc x) 4 from upd_ne (by decide), f3 4 (by decide)]
            exact (upd_at _ _ _).trans r2
          · show xE fc x 5 = _
            rw [show xE fc x 5 = lbW 72 1 99 fc 2 (xD fc x) 5 from upd_ne (by decide), f4 5 (by decide)]
            exact (upd_at _ _ _).trans r3
          · show xE fc x 6 = _
            exact (upd_at _ _ _).trans r4
          · show gE fR X fr = _
            have hB : gB fR X fr = upd (s_X12_begin_w0 fr) 0 (nI R1) := g1
            have hC : gC fR X fr = upd (gB fR X fr) 1 (nI R2) := g2
            have hD : gD fR X fr = upd (gC fR X fr) 2 (nI R3) := g3
            have hE : gE fR X fr = upd (gD fR X fr) 4 (nI R4) := g4
            rw [hE, hD, hC, hB]
theorem here_r (hb : tpB L fc fR) (h : tpR L p x X) (hp : p < L) : s_X9_isHere_r a x fc = if fR p = a then 1 else 0 := by
  rw [← her_eq (a := a) hb h, h.2.2.1, h.2.2.2.1, if_neg (mt (nI_leI (by have := hb.1; omega) (by have := hb.1; omega)).mp (Nat.not_le.mpr hp)), tn_of (k := p) rfl (by have := hb.1; omega)]
end TEXT3
section PARTS
variable {x fc : Nat → Int32}
theorem q10 : ((1 : Int32) = 0) = False := eq_false (by decide)
theorem q00 : ((0 : Int32) = 0) = True := eq_self 0
theorem part_0 (h1 : s_X9_isHere_r 65 x fc = 0) (h2 : s_X9_isHere_r 83 x fc = 0) (h3 : s_X9_isHere_r 66 x fc = 0) (h4 : s_X9_isHere_r 84 x fc = 0) : s_X9_readPart_r x fc = 0 ∧ s_X9_readPart_w0 x fc = x := by
  unfold s_X9_readPart_r s_X9_readPart_w0
  simp only [h1, h2, h3, h4, q00, q10, if_true, if_false, and_self]
theorem part_A (h1 : s_X9_isHere_r 65 x fc = 1) (h2 : s_X9_isHere_r 83 x fc = 0) (h3 : s_X9_isHere_r 66 x fc = 0) (h4 : s_X9_isHere_r 84 x fc = 0) : s_X9_readPart_r x fc = (if x 10 = 0 then s_X9_readAmbient_r x fc else 0) ∧ s_X9_readPart_w0 x fc = (if x 10 = 0 then s_X9_readAmbient_w0 x fc else x) := by
  unfold s_X9_readPart_r s_X9_readPart_w0
  simp only [h1, h2, h3, h4, q00, q10, if_true, if_false, and_self]
theorem part_S (h1 : s_X9_isHere_r 65 x fc = 0) (h2 : s_X9_isHere_r 83 x fc = 1) (h3 : s_X9_isHere_r 66 x fc = 0) (h4 : s_X9_isHere_r 84 x fc = 0) : s_X9_readPart_r x fc = (if x 7 = -1 then (if lbR 83 0 999 fc 3 x = -1 then 0 else 1) else 0) ∧ s_X9_readPart_w0 x fc = (if x 7 = -1 then upd (lbW 83 0 999 fc 3 x) 7 (lbR 83 0 999 fc 3 x) else x) := by
  unfold s_X9_readPart_r s_X9_readPart_w0
  simp only [h1, h2, h3, h4, q00, q10, if_true, if_false, and_self, lab3.1, lab3.2]
theorem part_B (h1 : s_X9_isHere_r 65 x fc = 0) (h2 : s_X9_isHere_r 83 x fc = 0) (h3 : s_X9_isHere_r 66 x fc = 1) (h4 : s_X9_isHere_r 84 x fc = 0) : s_X9_readPart_r x fc = (if x 8 = -1 then (if lbR 66 0 20 fc 2 x = -1 then 0 else 1) else 0) ∧ s_X9_readPart_w0 x fc = (if x 8 = -1 then upd (lbW 66 0 20 fc 2 x) 8 (lbR 66 0 20 fc 2 x) else x) := by
  unfold s_X9_readPart_r s_X9_readPart_w0
  simp only [h1, h2, h3, h4, q00, q10, if_true, if_false, and_self, lab2.1, lab2.2]
theorem part_T (h1 : s_X9_isHere_r 65 x fc = 0) (h2 : s_X9_isHere_r 83 x fc = 0) (h3 : s_X9_isHere_r 66 x fc = 0) (h4 : s_X9_isHere_r 84 x fc = 1) : s_X9_readPart_r x fc = (if x 9 = -1 then (if lbR 84 0 99 fc 2 x = -1 then 0 else 1) else 0) ∧ s_X9_readPart_w0 x fc = (if x 9 = -1 then upd (lbW 84 0 99 fc 2 x) 9 (lbR 84 0 99 fc 2 x) else x) := by
  unfold s_X9_readPart_r s_X9_readPart_w0
  simp only [h1, h2, h3, h4, q00, q10, if_true, if_false, and_self, lab2.1, lab2.2]
end PARTS

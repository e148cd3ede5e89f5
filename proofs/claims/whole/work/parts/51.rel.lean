/-! ===== a tick ===== -/
section ARITH
theorem bmod32 {n : Int} (h1 : -2147483648 ≤ n) (h2 : n < 2147483648) : n.bmod (2 ^ 32) = n := by
  refine Int.bmod_eq_of_le ?_ ?_
  · show -((4294967296 : Int) / 2) ≤ n
    exact h1
  · show n < ((4294967296 : Int) + 1) / 2
    exact h2
theorem bI_int {x a b : Int32} (h : bI x a b) : a.toInt ≤ x.toInt ∧ x.toInt ≤ b.toInt := ⟨Int32.le_iff_toInt_le.mp h.1, Int32.le_iff_toInt_le.mp h.2⟩
/-- the heater's rest temperature beside its temperature -/
theorem gap_le {g p a t : Int32} (hg : bI g 0 20) (hp : bI p 0 99) (ha : bI a (-99) 99) (ht : bI t (-9999) 9999) : a + g * p - t ≤ 0 ↔ a + g * p ≤ t := by
  have g1 := (bI_int hg).1
  have g2 := (bI_int hg).2
  have p1 := (bI_int hp).1
  have p2 := (bI_int hp).2
  have a1 := (bI_int ha).1
  have a2 := (bI_int ha).2
  have t1 := (bI_int ht).1
  have t2 := (bI_int ht).2
  rw [show (0 : Int32).toInt = 0 from rfl] at g1 p1
  rw [show (20 : Int32).toInt = 20 from rfl] at g2
  rw [show (99 : Int32).toInt = 99 from rfl] at p2 a2
  rw [show (-99 : Int32).toInt = -99 from rfl] at a1
  rw [show (-9999 : Int32).toInt = -9999 from rfl] at t1
  rw [show (9999 : Int32).toInt = 9999 from rfl] at t2
  have m1 : 0 ≤ g.toInt * p.toInt := Int.mul_nonneg g1 p1
  have m2 : g.toInt * p.toInt ≤ 20 * 99 := Int.mul_le_mul g2 p2 p1 (by decide)
  have e1 : (g * p).toInt = g.toInt * p.toInt := by
    rw [Int32.toInt_mul]
    exact bmod32 (by omega) (by omega)
  have e2 : (a + g * p).toInt = a.toInt + g.toInt * p.toInt := by
    rw [Int32.toInt_add, e1]
    exact bmod32 (by omega) (by omega)
  have e3 : (a + g * p - t).toInt = a.toInt + g.toInt * p.toInt - t.toInt := by
    rw [Int32.toInt_sub, e2]
    exact bmod32 (by omega) (by omega)
  rw [Int32.le_iff_toInt_le, Int32.le_iff_toInt_le, e3, e2]
  show a.toInt + g.toInt * p.toInt - t.toInt ≤ 0 ↔ _
  omega
theorem gap_0 {r t : Int32} : r - t = 0 ↔ r = t := by
  rw [Int32.sub_eq_iff_eq_add]
  simp
/-- by how much the heater's temperature goes on -/
theorem warm_eq {g p a t i : Int32} (hg : bI g 0 20) (hp : bI p 0 99) (ha : bI a (-99) 99) (ht : bI t (-9999) 9999) (hi : bI i 1 50) : (if (if i ≤ 0 then 0 else (a + g * p - t) / i) = 0 then s_J6_compare_7cf53_r (a + g * p) t else (if i ≤ 0 then 0 else (a + g * p - t) / i)) = (if (a + g * p - t) / i = 0 then (if a + g * p - t = 0 then (a + g * p - t) / i else (if a + g * p - t ≤ 0 then (-1) else 1)) else (a + g * p - t) / i) := by
  have hi0 : ¬ i ≤ 0 := fun h => absurd (Int32.le_trans hi.1 h) (by decide)
  rw [if_neg hi0]
  have hl := gap_le hg hp ha ht
  generalize a + g * p = r at hl ⊢
  by_cases c : (r - t) / i = 0
  · rw [if_pos c, if_pos c]
    unfold s_J6_compare_7cf53_r
    by_cases c0 : r - t = 0
    · rw [if_pos c0, c]
      have e := gap_0.mp c0
      simp only [e]
      rw [if_pos (Int32.le_refl _)]
      simp
    · rw [if_neg c0]
      have e : ¬ r = t := fun q => c0 (gap_0.mpr q)
      by_cases c1 : r - t ≤ 0
      · rw [if_pos c1]
        have c2 : ¬ t ≤ r := fun q => e (Int32.le_antisymm (hl.mp c1) q)
        simp only [if_neg c2]
      · rw [if_neg c1]
        have c2 : t ≤ r := by
          rcases Int32.le_total t r with q | q
          · exact q
          · exact absurd (hl.mpr q) c1
        simp only [if_pos c2, if_neg e]
  · rw [if_neg c, if_neg c]
end ARITH
section TICK
variable {z : Nat → Nat → Int32} {f v : Nat → Int32} {N : Nat} {r : Int32}
theorem lim_out {x : Int32} (h : x = 0 ∨ x = 1) : (if x = 0 then (0 : Int32) else 1) = x := by rcases h with rfl | rfl <;> rfl
/-- the output, and the control behind it -/
theorem out_rel (h : RZ N z f) : poR z = tkR f ∧ bI (tkR f) 0 99 ∧ (∀ j, j < 7 → poC z j = z 3 j) ∧ poC z 7 = tkA f 14 ∧ poC z 8 = tkA f 15 ∧ poC z 9 = tkA f 20 ∧ poC z 10 = tkA f 19 ∧ (tkA f 14 = 0 ∨ tkA f 14 = 1) ∧ (tkA f 19 = 0 ∨ tkA f 19 = 1) := by
  obtain ⟨⟨p0, ⟨p1, p2, p3, p4, p5⟩, p6, p7, p8⟩, ⟨⟨q0, q1, q2, q3, q4, q5⟩, q6, q7, q8, q9, q10⟩, -, -, -, ⟨⟨a1, a2, a3, a4, a5, a6⟩, ⟨b1, b2, b3⟩, ⟨c1, c2, c3⟩, d1, d2, d3⟩⟩ := h
  unfold poR poC tkR tkA
  obtain ⟨m, hm, e11⟩ := vp_in_of b1 (by decide)
  rcases (show m = 0 ∨ m = 1 ∨ m = 2 by omega) with rfl | rfl | rfl
  · -- off
    have m1 : ¬ (f 11 = 1) := by rw [e11]; decide
    have m2 : ¬ (f 11 = 2) := by rw [e11]; decide
    have m0 : f 11 = 0 := e11
    unfold s_X1_outputAt_r s_X1_outputAt_w0
    rw [q6]
    simp only [if_neg m1, if_neg m2, if_pos m0]
    exact ⟨trivial, ⟨by decide, by decide⟩, fun _ _ => trivial, q7, q8, q9, q10, c1, c2⟩
  · -- the relay
    have m1 : f 11 = 1 := e11
    have m0 : ¬ f 11 = 0 := by rw [e11]; decide
    unfold s_X1_outputAt_r s_X1_outputAt_w0
    rw [q6]
    simp only [if_pos m1, if_neg m0]
    unfold s_X1_relayAt_r s_X1_relayAt_w0 s_X12_relayOutput_r s_X12_relayOutput_w0
    simp only []
    rw [p6, p5, q0, q1]
    by_cases k1 : f 12 < f 5 + f 6
    · rw [if_pos k1, if_pos k1]
      by_cases k2 : f 5 - f 6 < f 12
      · rw [if_pos k2, if_pos k2]
        refine ⟨?_, ?_, fun _ _ => rfl, q7, q8, q9, q10, c1, c2⟩
        · show (if z 3 7 = 0 then (0 : Int32) else f 4) = (if f 14 = 1 then f 4 else 0)
          rw [q7]
          rcases c1 with e | e
          · rw [e]; rfl
          · rw [e]; rfl
        · by_cases k3 : f 14 = 1
          · rw [if_pos k3]; exact a5
          · rw [if_neg k3]; exact ⟨by decide, by decide⟩
      · rw [if_neg k2, if_neg k2]
        exact ⟨rfl, a5, fun j hj => upd_ne (by omega), rfl, q8, q9, q10, Or.inr rfl, c2⟩
    · rw [if_neg k1, if_neg k1]
      refine ⟨rfl, ?_, fun j hj => upd_ne (by omega), rfl, q8, q9, q10, Or.inl rfl, c2⟩
      show bI (if (0 : Int32) = 1 then f 4 else 0) 0 99
      rw [if_neg (by decide)]
      exact ⟨by decide, by decide⟩
  · -- the control
    have m1 : ¬ f 11 = 1 := by rw [e11]; decide
    have m2 : f 11 = 2 := e11
    have m0 : ¬ f 11 = 0 := by rw [e11]; decide
    unfold s_X1_outputAt_r s_X1_outputAt_w0
    rw [q6]
    simp only [if_neg m1, if_pos m2, if_neg m0]
    unfold s_X1_controlAt_r s_X1_controlAt_w0 s_X12_controlOutput_r s_X12_controlOutput_w0
    simp only [within_eq]
    rw [p6, p5, q0, q3, q4, q5, q8, q9, q10]
    have ed : (if f 19 = 0 then 0 else f 5 - f 12 - f 20) = (if f 19 = 1 then f 5 - f 12 - f 20 else 0) := by
      rcases c2 with e | e
      · rw [e]; rfl
      · rw [e]; rfl
    rw [ed]
    generalize (if f 19 = 1 then f 5 - f 12 - f 20 else 0) = dd
    generalize (f 8 * (f 5 - f 12) + f 9 * f 15 + f 10 * dd) / 100 = ww
    refine ⟨rfl, ?_, fun j hj => ?_, ?_, ?_, rfl, rfl, c1, Or.inr rfl⟩
    · have := within_b (a := ww) (b := 0) (c := f 4) a5.1
      exact ⟨this.1, Int32.le_trans this.2 a5.2⟩
    · rw [upd_ne (by omega), upd_ne (by omega)]
      exact ite_P (P := fun w : Nat → Int32 => w j = z 3 j) (fun _ => upd_ne (by omega)) (fun _ => rfl)
    · show (if s_X12_within_r ww 0 (f 4) = ww then upd (z 3) 8 (s_X12_within_r (f 15 + (f 5 - f 12)) (-9999) 9999) else z 3) 7 = f 14
      exact ite_P (P := fun w : Nat → Int32 => w 7 = f 14) (fun _ => q7) (fun _ => q7)
    · show (if s_X12_within_r ww 0 (f 4) = ww then upd (z 3) 8 (s_X12_within_r (f 15 + (f 5 - f 12)) (-9999) 9999) else z 3) 8 = (if s_X12_within_r ww 0 (f 4) = ww then s_X12_within_r (f 15 + (f 5 - f 12)) (-9999) 9999 else f 15)
      by_cases k : s_X12_within_r ww 0 (f 4) = ww
      · rw [if_pos k, if_pos k]; rfl
      · rw [if_neg k, if_neg k]; exact q8
end TICK

section CROSS
variable {z : Nat → Nat → Int32} {f v x w p5 p6 p7 p8 : Nat → Int32} {N n : Nat} {ck : Int32}
theorem po_5 (z : Nat → Nat → Int32) : s_X7_passOne_z z 5 = if poC z 6 = 1 then s_X8_watch_w1 (z 1 5) (poP z 5) (poC z 0) (z 0 0 + 1) (z 4) (z 5) else z 5 := rfl
theorem po_6 (z : Nat → Nat → Int32) : s_X7_passOne_z z 6 = if poC z 6 = 1 then s_X8_watch_w2 (z 1 5) (poP z 5) (poC z 0) (z 4) (z 6) else z 6 := rfl
theorem po_7 (z : Nat → Nat → Int32) : s_X7_passOne_z z 7 = if poC z 6 = 1 then s_X8_watch_w3 (z 1 5) (poP z 5) (poC z 0) (z 4) (z 7) else z 7 := rfl
theorem po_8 (z : Nat → Nat → Int32) : s_X7_passOne_z z 8 = if poC z 6 = 1 then s_X8_watch_w4 (z 1 5) (poP z 5) (poC z 0) (z 0 0 + 1) (z 4) (z 8) else z 8 := rfl
theorem po_11 (z : Nat → Nat → Int32) : s_X7_passOne_z z 11 = if poC z 6 = 1 then (if s_X8_watch_r (z 1 5) (poP z 5) (poC z 0) = 0 then ztk z 11 else upd (ztk z 11) 4 (ztk z 11 4 + 1)) else ztk z 11 := rfl
/-- a swing is kept -/
theorem add_rel (hc : x 0 = nI n) (hn : n < 21) (h16 : w 16 = nI n) (hS : ∀ j, j < n → p5 j = w (42 + 4 * j) ∧ p6 j = w (42 + 4 * j + 1) ∧ p7 j = w (42 + 4 * j + 2) ∧ p8 j = w (42 + 4 * j + 3)) (e22 : ck - x 7 = w 22) (e23 : x 8 = w 23) (e24 : x 9 = w 24) (e13 : ck = w 13) : ∃ n', n' < 21 ∧ s_X8_add_w0 x 0 = nI n' ∧ s_X12_addSwing_w0 w 16 = nI n' ∧ ∀ j, j < n' → s_X8_add_w1 ck x p5 j = s_X12_addSwing_w0 w (42 + 4 * j) ∧ s_X8_add_w2 x p6 j = s_X12_addSwing_w0 w (42 + 4 * j + 1) ∧ s_X8_add_w3 x p7 j = s_X12_addSwing_w0 w (42 + 4 * j + 2) ∧ s_X8_add_w4 ck x p8 j = s_X12_addSwing_w0 w (42 + 4 * j + 3) := by
  have et : tn (nI n) = n := nI_clamp (by omega)
  by_cases c : n = 20
  · -- full: the oldest goes
    subst c
    have k1 : ¬ x 0 < 20 := by rw [hc]; decide
    have k2 : ¬ (0 : Int32) < 0 := by decide
    have k3 : (0 : Int32) < x 0 := by rw [hc]; decide
    have d0 : s_X8_drop_w0 0 x = upd x 0 (x 0 - 1) := (if_neg k2).trans (if_pos k3)
    have ev : (upd x 0 (x 0 - 1)) 0 = nI 19 := by rw [pk_us, hc]; decide
    have d1 : ∀ p : Nat → Int32, (if (0 : Int32) < 0 then p else (if 0 < x 0 then drJ (tn 0) (tn (x 0) - 1) p else p)) = drJ 0 19 p := fun p => by rw [if_neg k2, if_pos k3, hc]; rfl
    have m1 : ¬ ((upd x 0 (x 0 - 1)) 0 < 0) := by rw [ev]; decide
    have m2 : ¬ (20 ≤ (upd x 0 (x 0 - 1)) 0) := by rw [ev]; decide
    have t19 : tn ((upd x 0 (x 0 - 1)) 0) = 19 := by rw [ev]; rfl
    have a0 : s_X8_add_w0 x = upd (upd x 0 (x 0 - 1)) 0 ((upd x 0 (x 0 - 1)) 0 + 1) := by
      unfold s_X8_add_w0
      simp only [if_neg k1, d0]
      rw [if_neg m1, if_neg m2]
    have a1 : s_X8_add_w1 ck x p5 = upd (drJ 0 19 p5) 19 (ck - x 7) := by
      unfold s_X8_add_w1 s_X8_drop_w1
      simp only [if_neg k1, d0]
      rw [if_neg m1, if_neg m2, d1, t19, upd_ne (by decide)]
    have a2 : s_X8_add_w2 x p6 = upd (drJ 0 19 p6) 19 (x 8) := by
      unfold s_X8_add_w2 s_X8_drop_w2
      simp only [if_neg k1, d0]
      rw [if_neg m1, if_neg m2, d1, t19, upd_ne (by decide)]
    have a3 : s_X8_add_w3 x p7 = upd (drJ 0 19 p7) 19 (x 9) := by
      unfold s_X8_add_w3 s_X8_drop_w3
      simp only [if_neg k1, d0]
      rw [if_neg m1, if_neg m2, d1, t19, upd_ne (by decide)]
    have a4 : s_X8_add_w4 ck x p8 = upd (drJ 0 19 p8) 19 ck := by
      unfold s_X8_add_w4 s_X8_drop_w4
      simp only [if_neg k1, d0]
      rw [if_neg m1, if_neg m2, d1, t19]
    have w0 : w 16 = 20 := h16
    have ew : s_X12_dropSwing_w0 0 w = upd (drF 42 118 w) 16 (w 16 - 1) := rfl
    have e16 : (upd (drF 42 118 w) 16 (w 16 - 1)) 16 = nI 19 := by rw [pk_us, h16]; decide
    have t16 : tn ((upd (drF 42 118 w) 16 (w 16 - 1)) 16) = 19 := by rw [e16]; rfl
    have q22 : (upd (drF 42 118 w) 16 (w 16 - 1)) 22 = w 22 := by rw [upd_ne (by decide), drF_out (by omega)]
    have q23 : (upd (drF 42 118 w) 16 (w 16 - 1)) 23 = w 23 := by rw [upd_ne (by decide), drF_out (by omega)]
    have q24 : (upd (drF 42 118 w) 16 (w 16 - 1)) 24 = w 24 := by rw [upd_ne (by decide), drF_out (by omega)]
    have q13 : (upd (drF 42 118 w) 16 (w 16 - 1)) 13 = w 13 := by rw [upd_ne (by decide), drF_out (by omega)]
    have b0 : s_X12_addSwing_w0 w = upd (upd (upd (upd (upd (upd (drF 42 118 w) 16 (w 16 - 1)) (42 + 4 * 19) (w 22)) (42 + 4 * 19 + 1) (w 23)) (42 + 4 * 19 + 2) (w 24)) (42 + 4 * 19 + 3) (w 13)) 16 (nI 19 + 1) := by
      unfold s_X12_addSwing_w0
      simp only [if_pos w0, ew]
      rw [t16, q22, q23, q24, q13, e16]
    refine ⟨20, by decide, ?_, ?_, fun j hj => ?_⟩
    · rw [a0, pk_us, ev]; decide
    · rw [b0, pk_us]; decide
    · rw [a1, a2, a3, a4, b0]
      rcases Nat.lt_or_ge j 19 with q | q
      · obtain ⟨s1, s2, s3, s4⟩ := hS (j + 1) (by omega)
        have dj : ∀ p : Nat → Int32, drJ 0 19 p j = p (j + 1) := fun p => by simp only [drJ]; rw [if_pos (by omega)]
        have dF : ∀ i, i < 4 → drF 42 118 w (42 + 4 * j + i) = w (42 + 4 * (j + 1) + i) := fun i hi => by
          simp only [drF]
          rw [if_pos (by omega)]
          congr 1
          omega
        refine ⟨?_, ?_, ?_, ?_⟩
        · rw [upd_ne (by omega), upd_ne (by omega), upd_ne (by omega), upd_ne (by omega), upd_ne (by omega), upd_ne (by omega), upd_ne (by omega), dj, s1]
          exact (dF 0 (by decide)).symm
        · rw [upd_ne (by omega), upd_ne (by omega), upd_ne (by omega), upd_ne (by omega), upd_ne (by omega), upd_ne (by omega), upd_ne (by omega), dj, s2]
          exact (dF 1 (by decide)).symm
        · rw [upd_ne (by omega), upd_ne (by omega), upd_ne (by omega), upd_ne (by omega), upd_ne (by omega), upd_ne (by omega), upd_ne (by omega), dj, s3]
          exact (dF 2 (by decide)).symm
        · rw [upd_ne (by omega), upd_ne (by omega), upd_ne (by omega), upd_ne (by omega), upd_ne (by omega), upd_ne (by omega), upd_ne (by omega), dj, s4]
          exact (dF 3 (by decide)).symm
      · obtain rfl : j = 19 := by omega
        refine ⟨?_, ?_, ?_, ?_⟩
        · rw [pk_us, upd_ne (by omega), upd_ne (by omega), upd_ne (by omega), upd_ne (by omega), pk_us]
          exact e22
        · rw [pk_us, upd_ne (by omega), upd_ne (by omega), upd_ne (by omega), pk_us]
          exact e23
        · rw [pk_us, upd_ne (by omega), upd_ne (by omega), pk_us]
          exact e24
        · rw [pk_us, upd_ne (by omega), pk_us]
          exact e13
  · have h20 : n < 20 := by omega
    have k1 : x 0 < 20 := by rw [hc]; exact (nI_ltI (a := n) (b := 20) (by omega) (by decide)).mpr h20
    have m1 : ¬ x 0 < 0 := by rw [hc]; exact Int32.not_lt.mpr (show (0 : Int32) ≤ nI n from nI_le (a := 0) (Nat.zero_le _) (by omega))
    have m2 : ¬ 20 ≤ x 0 := Int32.not_le.mpr k1
    have a0 : s_X8_add_w0 x = upd x 0 (x 0 + 1) := by
      unfold s_X8_add_w0
      simp only [if_pos k1]
      rw [if_neg m1, if_neg m2]
    have a1 : s_X8_add_w1 ck x p5 = upd p5 n (ck - x 7) := by
      unfold s_X8_add_w1
      simp only [if_pos k1]
      rw [if_neg m1, if_neg m2, hc, et]
    have a2 : s_X8_add_w2 x p6 = upd p6 n (x 8) := by
      unfold s_X8_add_w2
      simp only [if_pos k1]
      rw [if_neg m1, if_neg m2, hc, et]
    have a3 : s_X8_add_w3 x p7 = upd p7 n (x 9) := by
      unfold s_X8_add_w3
      simp only [if_pos k1]
      rw [if_neg m1, if_neg m2, hc, et]
    have a4 : s_X8_add_w4 ck x p8 = upd p8 n ck := by
      unfold s_X8_add_w4
      simp only [if_pos k1]
      rw [if_neg m1, if_neg m2, hc, et]
    have w0 : ¬ w 16 = 20 := by
      rw [h16]
      intro h9
      have h8 := congrArg Int32.toNatClampNeg h9
      rw [nI_clamp (by omega)] at h8
      exact c h8
    have b0 : s_X12_addSwing_w0 w = upd (upd (upd (upd (upd w (42 + 4 * n) (w 22)) (42 + 4 * n + 1) (w 23)) (42 + 4 * n + 2) (w 24)) (42 + 4 * n + 3) (w 13)) 16 (nI n + 1) := by
      unfold s_X12_addSwing_w0
      simp only [if_neg w0]
      rw [h16, et]
    refine ⟨n + 1, by omega, ?_, ?_, fun j hj => ?_⟩
    · rw [a0, pk_us, hc, nI_1]
    · rw [b0, pk_us, nI_1]
    · rw [a1, a2, a3, a4, b0]
      rcases Nat.lt_or_ge j n with q | q
      · obtain ⟨s1, s2, s3, s4⟩ := hS j q
        refine ⟨?_, ?_, ?_, ?_⟩
        · rw [upd_ne (by omega), upd_ne (by omega), upd_ne (by omega), upd_ne (by omega), upd_ne (by omega), upd_ne (by omega), s1]
        · rw [upd_ne (by omega), upd_ne (by omega), upd_ne (by omega), upd_ne (by omega), upd_ne (by omega), upd_ne (by omega), s2]
        · rw [upd_ne (by omega), upd_ne (by omega), upd_ne (by omega), upd_ne (by omega), upd_ne (by omega), upd_ne (by omega), s3]
        · rw [upd_ne (by omega), upd_ne (by omega), upd_ne (by omega), upd_ne (by omega), upd_ne (by omega), upd_ne (by omega), s4]
      · obtain rfl : j = n := by omega
        refine ⟨?_, ?_, ?_, ?_⟩
        · rw [pk_us, upd_ne (by omega), upd_ne (by omega), upd_ne (by omega), upd_ne (by omega), pk_us]
          exact e22
        · rw [pk_us, upd_ne (by omega), upd_ne (by omega), upd_ne (by omega), pk_us]
          exact e23
        · rw [pk_us, upd_ne (by omega), upd_ne (by omega), pk_us]
          exact e24
        · rw [pk_us, upd_ne (by omega), pk_us]
          exact e13
theorem addX_keep {j : Nat} (h0 : j ≠ 0) : s_X8_add_w0 x j = x j := by
  have hd : ∀ y : Nat → Int32, s_X8_drop_w0 0 y j = y j := fun y => by
    unfold s_X8_drop_w0
    exact ite_P (P := fun w : Nat → Int32 => w j = y j) (fun _ => rfl) (fun _ => ite_P (P := fun w : Nat → Int32 => w j = y j) (fun _ => upd_ne h0) (fun _ => rfl))
  have h2 : (if (x 0) < 20 then x else (s_X8_drop_w0 0 x)) j = x j := ite_P (P := fun w : Nat → Int32 => w j = x j) (fun _ => rfl) (fun _ => hd x)
  unfold s_X8_add_w0
  try simp only []
  generalize (if (x 0) < 20 then x else (s_X8_drop_w0 0 x)) = y at h2 ⊢
  exact ite_P (P := fun w : Nat → Int32 => w j = x j) (fun _ => h2) (fun _ => ite_P (P := fun w : Nat → Int32 => w j = x j) (fun _ => h2) (fun _ => (upd_ne h0).trans h2))
theorem addS_keep {j : Nat} (h0 : j < 42 ∨ 122 ≤ j) (h1 : j ≠ 16) (h16 : vp_in (w 16) 21) : s_X12_addSwing_w0 w j = w j := by
  obtain ⟨e, hlt⟩ := in_tn h16 (by decide)
  have hd : (if (w 16) = 20 then (s_X12_dropSwing_w0 0 w) else w) j = w j ∧ tn ((if (w 16) = 20 then (s_X12_dropSwing_w0 0 w) else w) 16) < 20 := by
    by_cases c : w 16 = 20
    · rw [if_pos c]
      refine ⟨?_, ?_⟩
      · show upd (drF 42 118 w) 16 (w 16 - 1) j = w j
        rw [upd_ne h1, drF_out (by omega)]
      · show tn (upd (drF 42 118 w) 16 (w 16 - 1) 16) < 20
        rw [pk_us, c]
        decide
    · rw [if_neg c]
      refine ⟨rfl, ?_⟩
      rcases Nat.lt_or_ge (tn (w 16)) 20 with q | q
      · exact q
      · exact absurd (by rw [e, show tn (w 16) = 20 by omega]; rfl) c
  unfold s_X12_addSwing_w0
  try simp only []
  generalize (if (w 16) = 20 then (s_X12_dropSwing_w0 0 w) else w) = y at hd ⊢
  obtain ⟨g1, g2⟩ := hd
  rw [upd_ne h1, upd_ne (by omega), upd_ne (by omega), upd_ne (by omega), upd_ne (by omega)]
  exact g1
end CROSS

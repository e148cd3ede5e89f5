section TRY
variable {z : Nat → Nat → Int32} {f : Nat → Int32} {N : Nat} {a : Int32}
theorem can_rel (h : RZ N z f) : s_X7_canBeginTrial_r z = s_X12_canTry_r f := by
  unfold s_X7_canBeginTrial_r s_X12_canTry_r
  rw [gd_rel h, h.2.2.2.1.1]
theorem can_yes (h : RZ N z f) (c : ¬ s_X12_canTry_r f = 0) : tn (f 17) < 8 ∧ ¬ goodP f = 0 := by
  have h17 := h.2.2.2.2.2.2.1.2.2
  obtain ⟨e, hn⟩ := in_tn h17 (by decide)
  unfold s_X12_canTry_r at c
  try dsimp only at c
  by_cases k : 8 ≤ f 17
  · rw [if_pos k] at c
    exact absurd rfl c
  · rw [if_neg k] at c
    refine ⟨?_, fun q => ?_⟩
    · rcases Nat.lt_or_ge (tn (f 17)) 8 with q | q
      · exact q
      · exact absurd (by rw [e]; exact nI_le (a := 8) q (by omega)) k
    · rw [q] at c
      exact c (if_pos (by decide))
/-- the page, and the State, behind a trial's begin -/
abbrev pgO (f : Nat → Int32) : Nat → Int32 := upd (upd (upd (upd (upd f (122 + 4 * tn (f 17)) (f 8)) (122 + 4 * tn (f 17) + 1) (f 9)) (122 + 4 * tn (f 17) + 2) (f 10)) (122 + 4 * tn (f 17) + 3) (f 11)) 17 ((f 17) + 1)
abbrev zOp (z : Nat → Nat → Int32) : Nat → Nat → Int32 := zU (zU z 9 (s_X10_open_w0 (z 9))) 10 (s_X10_open_w1 (z 9) (z 10) (z 3))
theorem open_rel (h : RZ N z f) (hn : tn (f 17) < 8) : RZ N (zOp z) (pgO f) ∧ goodP (pgO f) = goodP f := by
  obtain ⟨hP, hC, hW, ⟨t1, t2⟩, hA, hI⟩ := h
  have h17 := hI.2.1.2.2
  have n16 := hI.2.1.2.1
  obtain ⟨e, -⟩ := in_tn h17 (by decide)
  have ef : ∀ j, j < 122 → j ≠ 17 → pgO f j = f j := fun j h1 h2 => by unfold pgO; rw [upd_ne h2, upd_ne (by omega), upd_ne (by omega), upd_ne (by omega), upd_ne (by omega)]
  have e17 : pgO f 17 = nI (tn (f 17) + 1) := by
    unfold pgO
    rw [pk_us, ← nI_1, ← e]
  have et : tn (nI (tn (f 17) + 1)) = tn (f 17) + 1 := nI_clamp (by omega)
  have k1 : ¬ (z 9 0) < 0 := by rw [t1, e]; exact Int32.not_lt.mpr (show (0 : Int32) ≤ nI (tn (f 17)) from nI_le (a := 0) (Nat.zero_le _) (by omega))
  have k2 : ¬ 8 ≤ (z 9 0) := by rw [t1, e]; exact fun q : (8 : Int32) ≤ nI (tn (f 17)) => absurd ((nI_leI (a := 8) (by decide) (by omega)).mp q) (by omega)
  have o0 : s_X10_open_w0 (z 9) = upd (z 9) 0 (z 9 0 + 1) := by
    unfold s_X10_open_w0
    simp only [if_neg k1, if_neg k2]
  have o1 : s_X10_open_w1 (z 9) (z 10) (z 3) = upd (upd (upd (upd (z 10) (4 * tn (f 17)) (z 3 3)) (4 * tn (f 17) + 1) (z 3 4)) (4 * tn (f 17) + 2) (z 3 5)) (4 * tn (f 17) + 3) (z 3 6) := by
    unfold s_X10_open_w1
    simp only [if_neg k1, if_neg k2]
    rw [t1]
  have hT2 : rlT (zOp z) (pgO f) := by
    refine ⟨?_, ?_⟩
    · show s_X10_open_w0 (z 9) 0 = _
      rw [o0, pk_us, e17, t1, ← nI_1, ← e]
    · rw [e17, et]
      intro t ht
      show s_X10_open_w1 (z 9) (z 10) (z 3) t = _
      obtain ⟨⟨-, -, -, q3, q4, q5⟩, q6, -⟩ := hC
      rw [o1, q3, q4, q5, q6]
      unfold pgO
      rcases (show t < 4 * tn (f 17) ∨ t = 4 * tn (f 17) ∨ t = 4 * tn (f 17) + 1 ∨ t = 4 * tn (f 17) + 2 ∨ t = 4 * tn (f 17) + 3 by omega) with q | rfl | rfl | rfl | rfl
      · rw [upd_ne (by omega), upd_ne (by omega), upd_ne (by omega), upd_ne (by omega), upd_ne (by omega), upd_ne (by omega), upd_ne (by omega), upd_ne (by omega), upd_ne (by omega)]
        exact t2 t q
      · rw [upd_ne (by omega), upd_ne (by omega), upd_ne (by omega), pk_us, upd_ne (by omega), upd_ne (by omega), upd_ne (by omega), upd_ne (by omega), pk_us]
      · rw [upd_ne (by omega), upd_ne (by omega), pk_us, ← Nat.add_assoc, upd_ne (by omega), upd_ne (by omega), upd_ne (by omega), pk_us]
      · rw [upd_ne (by omega), pk_us, ← Nat.add_assoc, upd_ne (by omega), upd_ne (by omega), pk_us]
      · rw [pk_us, ← Nat.add_assoc, upd_ne (by omega), pk_us]
  refine ⟨⟨hP.cong rfl rfl rfl (fun j hj => ef j (by omega) (by omega)), hC.cong rfl (fun j hj => ef j (by omega) (by omega)), hW.cong n16 rfl rfl rfl rfl rfl rfl (fun j hj => ef j (by omega) (by omega)), hT2, hA.cong rfl rfl (fun j hj => ef j (by omega) (by omega)), ?_⟩, ?_⟩
  · obtain ⟨⟨a1, a2, a3, a4, a5, a6⟩, ⟨b1, b2, b3⟩, ⟨c1, c2, c3⟩, d1, d2, d3⟩ := hI
    unfold rlI
    rw [e17, et, ef 0 (by omega) (by omega), ef 1 (by omega) (by omega), ef 2 (by omega) (by omega), ef 3 (by omega) (by omega), ef 4 (by omega) (by omega), ef 12 (by omega) (by omega), ef 11 (by omega) (by omega), ef 16 (by omega) (by omega), ef 14 (by omega) (by omega), ef 19 (by omega) (by omega), ef 21 (by omega) (by omega), ef 22 (by omega) (by omega)]
    refine ⟨⟨a1, a2, a3, a4, a5, a6⟩, ⟨b1, b2, vp_in_nI (by omega) (by decide)⟩, ⟨c1, c2, c3⟩, fun k hk => by rw [ef (25 + k) (by omega) (by omega)]; exact d1 k hk, d2, fun t ht => ?_⟩
    rcases Nat.lt_or_ge t (tn (f 17)) with q | q
    · unfold pgO
      rw [upd_ne (by omega), upd_ne (by omega), upd_ne (by omega), upd_ne (by omega), upd_ne (by omega)]
      exact d3 t q
    · obtain rfl : t = tn (f 17) := by omega
      unfold pgO
      rw [upd_ne (by omega), pk_us]
      exact b1
  · have hn2 := (in_tn n16 (by decide)).2
    unfold goodP
    show goodG (pP (pgO f)) (sP (pgO f)) (tn (pgO f 16)) (pgO f 7) (tn (pgO f 16)) = _
    rw [ef 16 (by omega) (by omega), ef 7 (by omega) (by omega)]
    exact goodG_cong (fun j hj => ef (42 + 4 * j) (by omega) (by omega)) (fun j hj => by
      show pgO f (42 + 4 * j + 1) - pgO f (42 + 4 * j + 2) = f (42 + 4 * j + 1) - f (42 + 4 * j + 2)
      rw [ef (42 + 4 * j + 1) (by omega) (by omega), ef (42 + 4 * j + 2) (by omega) (by omega)]) (Nat.le_refl _)
theorem begin_eq (c1 : ¬ s_X11_isRule_r a = 0) (c2 : ¬ s_X7_canBeginTrial_r z = 0) : s_X7_beginTrial_z a z = s_X7_follow_z a (zOp z) := by
  funext i
  rcases (show i = 0 ∨ i = 1 ∨ i = 2 ∨ i = 3 ∨ i = 4 ∨ i = 5 ∨ i = 6 ∨ i = 7 ∨ i = 8 ∨ i = 9 ∨ i = 10 ∨ ∃ k, i = k + 11 by rcases Nat.lt_or_ge i 11 with q | q; (· omega); (· exact Or.inr (Or.inr (Or.inr (Or.inr (Or.inr (Or.inr (Or.inr (Or.inr (Or.inr (Or.inr (Or.inr ⟨i - 11, by omega⟩)))))))))))) with rfl | rfl | rfl | rfl | rfl | rfl | rfl | rfl | rfl | rfl | rfl | ⟨k, rfl⟩
  · exact (if_neg c1).trans (if_neg c2)
  · exact (if_neg c1).trans (if_neg c2)
  · rfl
  · exact (if_neg c1).trans (if_neg c2)
  · exact (if_neg c1).trans (if_neg c2)
  · exact (if_neg c1).trans (if_neg c2)
  · exact (if_neg c1).trans (if_neg c2)
  · exact (if_neg c1).trans (if_neg c2)
  · exact (if_neg c1).trans (if_neg c2)
  · exact (if_neg c1).trans (if_neg c2)
  · exact (if_neg c1).trans (if_neg c2)
  · show z (k + 11) = zOp z (k + 11)
    unfold zOp zU
    rw [if_neg (by omega), if_neg (by omega)]
theorem begin_no1 (c1 : s_X11_isRule_r a = 0) : s_X7_beginTrial_z a z = z := by
  funext i
  unfold s_X7_beginTrial_z
  split <;> first | exact if_pos c1 | rfl
theorem begin_no2 (c2 : s_X7_canBeginTrial_r z = 0) : s_X7_beginTrial_z a z = z := by
  by_cases c1 : s_X11_isRule_r a = 0
  · exact begin_no1 c1
  · funext i
    unfold s_X7_beginTrial_z
    split <;> first | exact (if_neg c1).trans (if_pos c2) | rfl
theorem try_rel (h : RZ N z f) (ha : vp_in a 4) (c1 : ¬ s_X11_isRule_r a = 0) (c : ¬ s_X12_canTry_r f = 0) : RZ N (s_X7_beginTrial_z a z) (s_X12_tryOn_w1 a f) := by
  obtain ⟨hn, hg⟩ := can_yes h c
  obtain ⟨h1, h2⟩ := open_rel h hn
  rw [begin_eq c1 (by rw [can_rel h]; exact c)]
  exact rule_rel h1 (by rw [h2]; exact hg) ha
/-- the latest trial is taken back -/
theorem takeBack_rel (h : RZ N z f) (c : ¬ f 17 = 0) : RZ N (s_X7_endTrial_z z) (s_X12_takeBackOn_w0 f) ∧ s_X7_endTrial_z z 9 0 = s_X12_takeBackOn_w0 f 17 := by
  obtain ⟨hP, hC, hW, ⟨t1, t2⟩, hA, hI⟩ := h
  have h17 := hI.2.1.2.2
  have n16 := hI.2.1.2.1
  obtain ⟨e, hn9⟩ := in_tn h17 (by decide)
  obtain ⟨n, hn⟩ : ∃ n, tn (f 17) = n + 1 := by
    refine ⟨tn (f 17) - 1, ?_⟩
    rcases Nat.eq_zero_or_pos (tn (f 17)) with q | q
    · rw [q] at e; exact absurd e c
    · omega
  have e1 : f 17 = nI (n + 1) := by rw [← hn]; exact e
  have em : f 17 - 1 = nI n := by rw [e1, ← nI_1]; exact Int32.add_sub_cancel _ _
  have et : tn (nI n) = n := nI_clamp (by omega)
  have z0 : ¬ ((z 9) 0) = 0 := by rw [t1]; exact c
  have k1 : ¬ (z 9 0) < 1 := by rw [t1, e1]; exact Int32.not_lt.mpr (show (1 : Int32) ≤ nI (n + 1) from nI_le (a := 1) (by omega) (by omega))
  have k2 : (z 9 0) ≤ 8 := by rw [t1, e1]; exact (show nI (n + 1) ≤ nI 8 from nI_le (by omega) (by decide))
  have r0 : s_X10_close_r (z 9) (z 10) (z 3) = z 10 (4 * n + 3) := by
    unfold s_X10_close_r
    rw [if_neg k1, if_pos k2, t1, em, et]
  have w0 : s_X10_close_w0 (z 9) = upd (z 9) 0 (nI n) := by
    unfold s_X10_close_w0
    rw [if_neg k1, if_pos k2, t1, em]
  have w2 : s_X10_close_w2 (z 9) (z 10) (z 3) = upd (upd (upd (z 3) 3 (z 10 (4 * n))) 4 (z 10 (4 * n + 1))) 5 (z 10 (4 * n + 2)) := by
    unfold s_X10_close_w2
    rw [if_neg k1, if_pos k2, t1, em, et]
  have ez : s_X7_endTrial_z z = s_X7_changeMode_z (s_X10_close_r (z 9) (z 10) (z 3)) (zU (zU z 3 (s_X10_close_w2 (z 9) (z 10) (z 3))) 9 (s_X10_close_w0 (z 9))) := by
    funext i
    rcases (show i = 0 ∨ i = 1 ∨ i = 2 ∨ i = 3 ∨ i = 4 ∨ i = 5 ∨ i = 6 ∨ i = 7 ∨ i = 8 ∨ i = 9 ∨ i = 10 ∨ ∃ k, i = k + 11 by rcases Nat.lt_or_ge i 11 with q | q; (· omega); (· exact Or.inr (Or.inr (Or.inr (Or.inr (Or.inr (Or.inr (Or.inr (Or.inr (Or.inr (Or.inr (Or.inr ⟨i - 11, by omega⟩)))))))))))) with rfl | rfl | rfl | rfl | rfl | rfl | rfl | rfl | rfl | rfl | rfl | ⟨k, rfl⟩
    · exact if_neg z0
    · rfl
    · rfl
    · exact if_neg z0
    · exact if_neg z0
    · rfl
    · rfl
    · rfl
    · rfl
    · exact if_neg z0
    · exact if_neg z0
    · show z (k + 11) = zU (zU z 3 _) 9 _ (k + 11)
      unfold zU
      rw [if_neg (by omega), if_neg (by omega)]
  have ep : s_X12_takeBackOn_w0 f = s_X12_modeOn_w0 (f (122 + 4 * n + 3)) (upd (upd (upd (upd f 17 (nI n)) 8 (f (122 + 4 * n))) 9 (f (122 + 4 * n + 1))) 10 (f (122 + 4 * n + 2))) := by
    unfold s_X12_takeBackOn_w0
    rw [em, et]
  have q0 : z 10 (4 * n) = f (122 + 4 * n) := t2 _ (by omega)
  have q1 : z 10 (4 * n + 1) = f (122 + 4 * n + 1) := t2 _ (by omega)
  have q2 : z 10 (4 * n + 2) = f (122 + 4 * n + 2) := t2 _ (by omega)
  have q3 : z 10 (4 * n + 3) = f (122 + 4 * n + 3) := t2 _ (by omega)
  have hm : vp_in (f (122 + 4 * n + 3)) 3 := hI.2.2.2.2.2 n (by omega)
  have ef : ∀ j, j ≠ 17 → j ≠ 8 → j ≠ 9 → j ≠ 10 → upd (upd (upd (upd f 17 (nI n)) 8 (f (122 + 4 * n))) 9 (f (122 + 4 * n + 1))) 10 (f (122 + 4 * n + 2)) j = f j := fun j h1 h2 h3 h4 => by rw [upd_ne h4, upd_ne h3, upd_ne h2, upd_ne h1]
  have hb : RZ N (zU (zU z 3 (s_X10_close_w2 (z 9) (z 10) (z 3))) 9 (s_X10_close_w0 (z 9))) (upd (upd (upd (upd f 17 (nI n)) 8 (f (122 + 4 * n))) 9 (f (122 + 4 * n + 1))) 10 (f (122 + 4 * n + 2))) := by
    rw [w0, w2, q0, q1, q2]
    refine ⟨hP.cong rfl rfl rfl (fun j hj => ef j (by omega) (by omega) (by omega) (by omega)), ?_, hW.cong n16 rfl rfl rfl rfl rfl rfl (fun j hj => ef j (by omega) (by omega) (by omega) (by omega)), ?_, hA.cong rfl rfl (fun j hj => ef j (by omega) (by omega) (by omega) (by omega)), ?_⟩
    · obtain ⟨⟨s0, s1, s2, s3, s4, s5⟩, s6, s7, s8, s9, s10⟩ := hC
      exact ⟨⟨s0, s1, s2, rfl, rfl, rfl⟩, s6, s7, s8, s9, s10⟩
    · refine ⟨rfl, ?_⟩
      have e17 : upd (upd (upd (upd f 17 (nI n)) 8 (f (122 + 4 * n))) 9 (f (122 + 4 * n + 1))) 10 (f (122 + 4 * n + 2)) 17 = nI n := rfl
      rw [e17, et]
      intro t ht
      rw [ef (122 + t) (by omega) (by omega) (by omega) (by omega)]
      exact t2 t (by omega)
    · obtain ⟨⟨a1, a2, a3, a4, a5, a6⟩, ⟨b1, b2, b3⟩, ⟨c1, c2, c3⟩, d1, d2, d3⟩ := hI
      have e17 : upd (upd (upd (upd f 17 (nI n)) 8 (f (122 + 4 * n))) 9 (f (122 + 4 * n + 1))) 10 (f (122 + 4 * n + 2)) 17 = nI n := rfl
      unfold rlI
      rw [e17, et]
      exact ⟨⟨a1, a2, a3, a4, a5, a6⟩, ⟨b1, b2, vp_in_nI (by omega) (by decide)⟩, ⟨c1, c2, c3⟩, fun k hk => by rw [ef (25 + k) (by omega) (by omega) (by omega) (by omega)]; exact d1 k hk, d2, fun t ht => by rw [ef (122 + 4 * t + 3) (by omega) (by omega) (by omega) (by omega)]; exact d3 t (by omega)⟩
  rw [ez, ep, r0, q3]
  have hfin := mode_rel hb hm
  exact ⟨hfin, hfin.2.2.2.1.1⟩
/-- a swing is discarded -/
theorem drop_rel {j : Nat} (h : RZ N z f) (ha : a = nI j) (hj : j < tn (f 16)) : RZ N (s_X11_discard_z a z) (s_X12_dropSwing_w0 a f) := by
  obtain ⟨hP, hC, ⟨w0, w1, w2, w3⟩, hT, hA, hI⟩ := h
  have n16 := hI.2.1.2.1
  obtain ⟨e, hn⟩ := in_tn n16 (by decide)
  obtain ⟨n, hn1⟩ : ∃ n, tn (f 16) = n + 1 := ⟨tn (f 16) - 1, by omega⟩
  have e1 : f 16 = nI (n + 1) := by rw [← hn1]; exact e
  have em : f 16 - 1 = nI n := by rw [e1, ← nI_1]; exact Int32.add_sub_cancel _ _
  have et : tn (nI n) = n := nI_clamp (by omega)
  have ej : tn a = j := by rw [ha]; exact nI_clamp (by omega)
  have k1 : ¬ a < 0 := by rw [ha]; exact Int32.not_lt.mpr (show (0 : Int32) ≤ nI j from nI_le (a := 0) (Nat.zero_le _) (by omega))
  have k2 : a < (z 4 0) := by rw [w0, ha, e1]; exact (nI_ltI (by omega) (by omega)).mpr (by omega)
  have x4 : s_X8_drop_w0 a (z 4) = upd (z 4) 0 (nI n) := by
    unfold s_X8_drop_w0
    rw [if_neg k1, if_pos k2, w0, em]
  have d0 : ∀ p : Nat → Int32, (if a < 0 then p else (if a < (z 4 0) then drJ (tn a) (tn (z 4 0) - 1) p else p)) = drJ j n p := fun p => by
    rw [if_neg k1, if_pos k2, w0, ej, hn1]
    rfl
  have y5 : s_X11_discard_z a z 5 = drJ j n (z 5) := d0 (z 5)
  have y6 : s_X11_discard_z a z 6 = drJ j n (z 6) := d0 (z 6)
  have y7 : s_X11_discard_z a z 7 = drJ j n (z 7) := d0 (z 7)
  have y8 : s_X11_discard_z a z 8 = drJ j n (z 8) := d0 (z 8)
  have y4 : s_X11_discard_z a z 4 = upd (z 4) 0 (nI n) := x4
  have ep : s_X12_dropSwing_w0 a f = upd (drF (42 + 4 * j) 118 f) 16 (nI n) := by
    unfold s_X12_dropSwing_w0
    rw [ej, em]
  have ef : ∀ i, i < 42 ∨ 118 ≤ i → i ≠ 16 → upd (drF (42 + 4 * j) 118 f) 16 (nI n) i = f i := fun i h1 h2 => by rw [upd_ne h2, drF_out (by omega)]
  have e16 : upd (drF (42 + 4 * j) 118 f) 16 (nI n) 16 = nI n := pk_us
  rw [ep]
  refine ⟨hP.cong rfl rfl rfl (fun i hi => ef i (by omega) (by omega)), hC.cong rfl (fun i hi => ef i (by omega) (by omega)), ⟨?_, ?_, ?_, fun h9 => ?_⟩, hT.cong rfl rfl (fun i hi => ef i (by omega) (by omega)), hA.cong rfl rfl (fun i hi => ef i (by omega) (by omega)), ?_⟩
  · rw [y4, e16]
    rfl
  · rw [y4, ef 21 (by omega) (by omega)]
    exact w1
  · rw [e16, et]
    intro i hi
    rw [y5, y6, y7, y8, upd_ne (by omega), upd_ne (by omega), upd_ne (by omega), upd_ne (by omega)]
    simp only [drJ, drF]
    rcases Nat.lt_or_ge i j with q | q
    · rw [if_neg (by omega), if_neg (by omega), if_neg (by omega), if_neg (by omega), if_neg (by omega), if_neg (by omega), if_neg (by omega), if_neg (by omega)]
      exact w2 i (by omega)
    · rw [if_pos (by omega), if_pos (by omega), if_pos (by omega), if_pos (by omega), if_pos (by omega), if_pos (by omega), if_pos (by omega), if_pos (by omega)]
      have hh := w2 (i + 1) (by omega)
      rw [show 42 + 4 * (i + 1) = 42 + 4 * i + 4 by omega] at hh
      rw [show 42 + 4 * i + 1 + 4 = 42 + 4 * i + 4 + 1 by omega, show 42 + 4 * i + 2 + 4 = 42 + 4 * i + 4 + 2 by omega, show 42 + 4 * i + 3 + 4 = 42 + 4 * i + 4 + 3 by omega]
      exact hh
  · rw [ef 21 (by omega) (by omega)] at h9
    have hG := w3 h9
    unfold rlG at hG ⊢
    rw [y4, ef 11 (by omega) (by omega), ef 22 (by omega) (by omega), ef 23 (by omega) (by omega), ef 24 (by omega) (by omega)]
    exact hG
  · obtain ⟨⟨a1, a2, a3, a4, a5, a6⟩, ⟨b1, b2, b3⟩, ⟨c1, c2, c3⟩, d1, d2, d3⟩ := hI
    unfold rlI
    rw [e16, ef 0 (by omega) (by omega), ef 1 (by omega) (by omega), ef 2 (by omega) (by omega), ef 3 (by omega) (by omega), ef 4 (by omega) (by omega), ef 12 (by omega) (by omega), ef 11 (by omega) (by omega), ef 17 (by omega) (by omega), ef 14 (by omega) (by omega), ef 19 (by omega) (by omega), ef 21 (by omega) (by omega), ef 22 (by omega) (by omega)]
    exact ⟨⟨a1, a2, a3, a4, a5, a6⟩, ⟨b1, vp_in_nI (by omega) (by decide), b3⟩, ⟨c1, c2, c3⟩, fun k hk => by rw [ef (25 + k) (by omega) (by omega)]; exact d1 k hk, d2, fun t ht => by rw [ef (122 + 4 * t + 3) (by omega) (by omega)]; exact d3 t ht⟩
theorem accept_rel (h : RZ N z f) : RZ N (s_X11_accept_z z) (s_X12_accept_w1 f) := by
  obtain ⟨hP, hC, hW, hT, hA, hI⟩ := h
  have n16 := hI.2.1.2.1
  have ef : ∀ j, j ≠ 17 → s_X12_accept_w1 f j = f j := fun j h1 => upd_ne h1
  have e17 : s_X12_accept_w1 f 17 = 0 := pk_us
  refine ⟨hP.cong rfl rfl rfl (fun j hj => ef j (by omega)), hC.cong rfl (fun j hj => ef j (by omega)), hW.cong n16 rfl rfl rfl rfl rfl rfl (fun j hj => ef j (by omega)), ⟨rfl, fun t ht => ?_⟩, hA.cong rfl rfl (fun j hj => ef j (by omega)), ?_⟩
  · rw [e17] at ht
    exact absurd ht (Nat.not_lt_zero _)
  · obtain ⟨⟨a1, a2, a3, a4, a5, a6⟩, ⟨b1, b2, b3⟩, ⟨c1, c2, c3⟩, d1, d2, d3⟩ := hI
    unfold rlI
    rw [e17, ef 0 (by omega), ef 1 (by omega), ef 2 (by omega), ef 3 (by omega), ef 4 (by omega), ef 12 (by omega), ef 11 (by omega), ef 16 (by omega), ef 14 (by omega), ef 19 (by omega), ef 21 (by omega), ef 22 (by omega)]
    exact ⟨⟨a1, a2, a3, a4, a5, a6⟩, ⟨b1, b2, vp_in_nI (n := 0) (by decide) (by decide)⟩, ⟨c1, c2, c3⟩, fun k hk => by rw [ef (25 + k) (by omega)]; exact d1 k hk, d2, fun t ht => absurd ht (Nat.not_lt_zero _)⟩
end TRY

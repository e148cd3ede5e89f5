section GOOD
variable {p p2 s s2 v v2 : Nat → Int32} {n : Nat} {tol : Int32}
theorem meanG_1 : 1 ≤ meanG p s n tol v := by
  unfold meanG
  by_cases c : 1 ≤ sumG p s n tol v n / nI (goodG p s n tol n)
  · rw [if_pos c]; exact c
  · rw [if_neg c]; decide
end GOOD
section RULES
variable {z : Nat → Nat → Int32} {f : Nat → Int32} {N : Nat} {a b : Int32}
theorem sw_p (h : RZ N z f) : ∀ j, j < tn (f 16) → z 5 j = pP f j := fun j hj => (h.2.2.1.2.2.1 j hj).1
theorem sw_s (h : RZ N z f) : ∀ j, j < tn (f 16) → sC (z 6) (z 7) j = sP f j := fun j hj => by
  obtain ⟨-, e1, e2, -⟩ := h.2.2.1.2.2.1 j hj
  show z 6 j - z 7 j = f (42 + 4 * j + 1) - f (42 + 4 * j + 2)
  rw [e1, e2]
theorem sw_v (h : RZ N z f) (b : Int32) : ∀ j, j < tn (f 16) → vC b (z 5) (z 6) (z 7) j = vP b f j := fun j hj => by
  unfold vC vP
  by_cases c : b = 0
  · rw [if_pos c, if_pos c]; exact sw_p h j hj
  · rw [if_neg c, if_neg c]; exact sw_s h j hj
theorem gd_rel (h : RZ N z f) : goodG (z 5) (sC (z 6) (z 7)) (tn ((z 4) 0)) ((z 3) 2) (tn ((z 4) 0)) = goodP f := by
  rw [h.2.2.1.1, h.2.1.1.2.2.1]
  exact goodG_cong (sw_p h) (sw_s h) (Nat.le_refl _)
theorem good_rel (h : RZ N z f) : s_X7_goodCount_r z = nI (goodP f) := congrArg nI (gd_rel h)
theorem mean_rel (h : RZ N z f) (b : Int32) : meanG (z 5) (sC (z 6) (z 7)) (tn ((z 4) 0)) ((z 3) 2) (vC b (z 5) (z 6) (z 7)) = meanP f b := by
  rw [h.2.2.1.1, h.2.1.1.2.2.1]
  exact meanG_cong (sw_p h) (sw_s h) (sw_v h b)
theorem mid_rel (h : RZ N z f) (b : Int32) : midG (vC b (z 5) (z 6) (z 7)) (tn ((z 4) 0)) = midP f b := by
  rw [h.2.2.1.1]
  exact midG_cong (sw_v h b)
theorem first_b {f4 m : Int32} (h4 : bI f4 0 99) (hm : 1 ≤ m) : ∃ k : Nat, k ≤ 12573 ∧ 127 * f4 / m = nI k := by
  obtain ⟨x, hx, ex⟩ := nI_of (x := f4) (Int32.not_lt.mpr h4.1)
  obtain ⟨y, hy, ey⟩ := nI_of (x := m) (Int32.not_lt.mpr (Int32.le_trans (show (0 : Int32) ≤ 1 by decide) hm))
  have hx2 : x ≤ 99 := (nI_leI (a := x) (b := 99) hx (by decide)).mp (ex ▸ h4.2)
  have hy2 : 1 ≤ y := (nI_leI (a := 1) (b := y) (by decide) hy).mp (ey ▸ hm)
  refine ⟨127 * x / y, ?_, ?_⟩
  · exact Nat.le_trans (Nat.div_le_self _ _) (by omega)
  · rw [ex, ey]
    show nI 127 * nI x / nI y = _
    rw [pk_mul, pk_div (by omega) (by omega) (by omega)]
theorem cap_id {k : Nat} (h : k ≤ 9999) : s_X12_capped_r (nI k) = nI k := by
  unfold s_X12_capped_r
  exact if_pos (nI_le (b := 9999) h (by decide))
theorem firsts {k : Nat} (hk : k ≤ 12573) : s_X12_capped_r (nI k / 2) = nI k / 2 ∧ s_X12_capped_r (nI k * 45 / 100) = nI k * 45 / 100 ∧ s_X12_capped_r (nI k * 6 / 10) = nI k * 6 / 10 ∧ s_X12_capped_r (nI k * 2 / 10) = nI k * 2 / 10 := by
  refine ⟨?_, ?_, ?_, ?_⟩
  · have e : nI k / 2 = nI (k / 2) := pk_div (d := 2) (by omega) (by omega) (by omega)
    rw [e]
    exact cap_id (by omega)
  · have e : nI k * 45 / 100 = nI (k * 45 / 100) := by
      show nI k * nI 45 / nI 100 = _
      rw [pk_mul, pk_div (by omega) (by omega) (by omega)]
    rw [e]
    exact cap_id (by omega)
  · have e : nI k * 6 / 10 = nI (k * 6 / 10) := by
      show nI k * nI 6 / nI 10 = _
      rw [pk_mul, pk_div (by omega) (by omega) (by omega)]
    rw [e]
    exact cap_id (by omega)
  · have e : nI k * 2 / 10 = nI (k * 2 / 10) := by
      show nI k * nI 2 / nI 10 = _
      rw [pk_mul, pk_div (by omega) (by omega) (by omega)]
    rw [e]
    exact cap_id (by omega)
theorem prop_rel (h : RZ N z f) (hg : ¬ goodP f = 0) (ha : vp_in a 4) (hb : vp_in b 3) : s_X7_proposed_r a b z = s_X12_proposalOf_r a b f := by
  have h4 : bI (f 4) 0 99 := h.2.2.2.2.2.1.2.2.2.2.1
  have e14 : z 1 4 = f 4 := h.1.2.1.2.2.2.2
  have m1 : 1 ≤ meanP f 1 := meanG_1
  have m0 : 1 ≤ meanP f 0 := meanG_1
  obtain ⟨k, hk, ek⟩ := first_b h4 m1
  obtain ⟨g1, g2, g3, g4⟩ := firsts hk
  unfold s_X7_proposed_r s_X12_proposalOf_r
  rw [gd_rel h, mean_rel h 1, mean_rel h 0, if_neg hg, if_neg hg, e14]
  generalize meanP f 1 = M1 at m1 ek ⊢
  generalize meanP f 0 = M0 at m0 ⊢
  rw [if_neg (Int32.not_lt.mpr m1), if_pos m0, ek]
  obtain ⟨i, hi, rfl⟩ := vp_in_of ha (by decide)
  obtain ⟨j, hj, rfl⟩ := vp_in_of hb (by decide)
  have p0 : s_X4_proportional_r 0 (nI k) = nI k / 2 := g1
  have p1 : s_X4_proportional_r 1 (nI k) = nI k * 45 / 100 := g2
  have p2 : s_X4_proportional_r 2 (nI k) = nI k * 6 / 10 := g3
  have p3 : s_X4_proportional_r 3 (nI k) = nI k * 2 / 10 := g4
  have i0 : ∀ x : Int32, s_X4_integral_r 0 x M0 = 0 := fun x => rfl
  have i1 : ∀ x : Int32, s_X4_integral_r 1 x M0 = s_X12_capped_r (x * 12 / (10 * M0)) := fun x => if_pos m0
  have i2 : ∀ x : Int32, s_X4_integral_r 2 x M0 = s_X12_capped_r (x * 2 / M0) := fun x => if_pos m0
  have i3 : ∀ x : Int32, s_X4_integral_r 3 x M0 = s_X12_capped_r (x * 2 / M0) := fun x => if_pos m0
  rcases (show i = 0 ∨ i = 1 ∨ i = 2 ∨ i = 3 by omega) with rfl | rfl | rfl | rfl
  · show (if nI j = 0 then s_X4_proportional_r 0 (nI k) else if nI j = 1 then s_X4_integral_r 0 (s_X4_proportional_r 0 (nI k)) M0 else s_X4_derivative_r 0 (s_X4_proportional_r 0 (nI k)) M0) = (if nI j = 0 then s_X12_capped_r (nI k / 2) else if nI j = 1 then 0 else 0)
    rw [p0, i0, g1]
    rfl
  · show (if nI j = 0 then s_X4_proportional_r 1 (nI k) else if nI j = 1 then s_X4_integral_r 1 (s_X4_proportional_r 1 (nI k)) M0 else s_X4_derivative_r 1 (s_X4_proportional_r 1 (nI k)) M0) = (if nI j = 0 then s_X12_capped_r (nI k * 45 / 100) else if nI j = 1 then s_X12_capped_r (nI k * 45 / 100 * 12 / (10 * M0)) else 0)
    rw [p1, i1, g2]
    rfl
  · show (if nI j = 0 then s_X4_proportional_r 2 (nI k) else if nI j = 1 then s_X4_integral_r 2 (s_X4_proportional_r 2 (nI k)) M0 else s_X4_derivative_r 2 (s_X4_proportional_r 2 (nI k)) M0) = (if nI j = 0 then s_X12_capped_r (nI k * 6 / 10) else if nI j = 1 then s_X12_capped_r (nI k * 6 / 10 * 2 / M0) else s_X12_capped_r (nI k * 6 / 10 * M0 / 8))
    rw [p2, i2, g3]
    rfl
  · show (if nI j = 0 then s_X4_proportional_r 3 (nI k) else if nI j = 1 then s_X4_integral_r 3 (s_X4_proportional_r 3 (nI k)) M0 else s_X4_derivative_r 3 (s_X4_proportional_r 3 (nI k)) M0) = (if nI j = 0 then s_X12_capped_r (nI k * 2 / 10) else if nI j = 1 then s_X12_capped_r (nI k * 2 / 10 * 2 / M0) else s_X12_capped_r (nI k * 2 / 10 * M0 / 3))
    rw [p3, i3, g4]
    rfl
/-- the settings of a rule -/
theorem set3_rel {P I D : Int32} (h : RZ N z f) : RZ N (zU z 3 (upd (upd (upd (z 3) 3 P) 4 I) 5 D)) (upd (upd (upd f 8 P) 9 I) 10 D) := by
  obtain ⟨hP, hC, hW, hT, hA, hI⟩ := h
  have ef : ∀ j, j < 8 ∨ 10 < j → upd (upd (upd f 8 P) 9 I) 10 D j = f j := fun j hj => by rw [upd_ne (by omega), upd_ne (by omega), upd_ne (by omega)]
  have n16 := hI.2.1.2.1
  refine ⟨hP.cong rfl rfl rfl (fun j hj => ef j (by omega)), ?_, hW.cong n16 rfl rfl rfl rfl rfl rfl (fun j hj => ef j (by omega)), hT.cong rfl rfl (fun j hj => ef j (by omega)), hA.cong rfl rfl (fun j hj => ef j (by omega)), hI.cong (fun j hj => ef j (by omega))⟩
  obtain ⟨⟨q0, q1, q2, q3, q4, q5⟩, q6, q7, q8, q9, q10⟩ := hC
  exact ⟨⟨q0, q1, q2, rfl, rfl, rfl⟩, q6, q7, q8, q9, q10⟩
theorem follow_eq (a : Int32) (z : Nat → Nat → Int32) : s_X7_follow_z a z = s_X7_changeMode_z 2 (zU z 3 (upd (upd (upd (z 3) 3 (s_X7_proposed_r a 0 z)) 4 (s_X7_proposed_r a 1 z)) 5 (s_X7_proposed_r a 2 z))) := by
  funext i
  rcases (show i = 0 ∨ i = 1 ∨ i = 2 ∨ i = 3 ∨ i = 4 ∨ i = 5 ∨ i = 6 ∨ i = 7 ∨ i = 8 ∨ ∃ k, i = k + 9 by rcases Nat.lt_or_ge i 9 with q | q; (· omega); (· exact Or.inr (Or.inr (Or.inr (Or.inr (Or.inr (Or.inr (Or.inr (Or.inr (Or.inr ⟨i - 9, by omega⟩)))))))))) with rfl | rfl | rfl | rfl | rfl | rfl | rfl | rfl | rfl | ⟨k, rfl⟩
  · rfl
  · rfl
  · rfl
  · rfl
  · rfl
  · rfl
  · rfl
  · rfl
  · rfl
  · show z (k + 9) = zU z 3 _ (k + 9)
    unfold zU
    rw [if_neg (by omega)]
theorem rule_rel (h : RZ N z f) (hg : ¬ goodP f = 0) (ha : vp_in a 4) : RZ N (s_X7_follow_z a z) (s_X12_ruleOn_w1 a f) := by
  have e0 : s_X7_proposed_r a 0 z = s_X12_proposalOf_r a 0 f := prop_rel h hg ha (vp_in_nI (n := 0) (by decide) (by decide))
  have e1 : s_X7_proposed_r a 1 z = s_X12_proposalOf_r a 1 f := prop_rel h hg ha (vp_in_nI (n := 1) (by decide) (by decide))
  have e2 : s_X7_proposed_r a 2 z = s_X12_proposalOf_r a 2 f := prop_rel h hg ha (vp_in_nI (n := 2) (by decide) (by decide))
  rw [follow_eq, e0, e1, e2]
  exact mode_rel (set3_rel h) (vp_in_nI (n := 2) (by decide) (by decide))
end RULES

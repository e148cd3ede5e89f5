/-! ===== what each call leaves of a state ===== -/
section OPS
variable {z : Zs} {B : Int} {a b : Int32}
theorem mode_eq : s_X11_mode_z a z = s_X7_changeMode_z a z := zs_ext (c13 rfl rfl rfl rfl rfl rfl rfl rfl rfl rfl rfl rfl rfl) (fun _ => rfl)
theorem set_eq : s_X11_set_z a b z = s_X7_put_z a b z := zs_ext (c13 rfl rfl rfl rfl rfl rfl rfl rfl rfl rfl rfl rfl rfl) (fun _ => rfl)
theorem dist_eq : s_X11_disturb_z a z = s_X7_push_z a z := zs_ext (c13 rfl rfl rfl rfl rfl rfl rfl rfl rfl rfl rfl rfl rfl) (fun _ => rfl)
theorem rule_eq : s_X11_tryRule_z a z = s_X7_beginTrial_z a z := zs_ext (c13 rfl rfl rfl rfl rfl rfl rfl rfl rfl rfl rfl rfl rfl) (fun _ => rfl)
theorem take_eq : s_X11_takeBack_z z = s_X7_endTrial_z z := zs_ext (c13 rfl rfl rfl rfl rfl rfl rfl rfl rfl rfl rfl rfl rfl) (fun _ => rfl)
theorem isMode_md (h : ¬ s_X11_isMode_r a = 0) : md3 a := by
  unfold s_X11_isMode_r at h
  dsimp only at h
  by_cases c1 : a < 0
  · rw [if_pos c1] at h; exact absurd rfl h
  · rw [if_neg c1] at h
    by_cases c2 : 2 < a
    · rw [if_pos c2] at h; exact absurd rfl h
    · obtain ⟨j, hj, rfl⟩ := vp_in_of (vin6 (B := 2) (n := 2) c1 (Int32.not_lt.mp c2) rfl (by decide)) (by decide)
      rcases (show j = 0 ∨ j = 1 ∨ j = 2 by omega) with rfl | rfl | rfl
      · exact Or.inl rfl
      · exact Or.inr (Or.inl rfl)
      · exact Or.inr (Or.inr rfl)
theorem md_isMode (h : md3 a) : ¬ s_X11_isMode_r a = 0 := by rcases h with rfl | rfl | rfl <;> decide
theorem en_k {x : Nat → Int32} {j : Nat} (h6 : j ≠ 6) (h7 : j ≠ 7) (h8 : j ≠ 8) (h10 : j ≠ 10) : s_X1_enter_w0 a x j = x j := by
  unfold s_X1_enter_w0
  (try dsimp only)
  exact ite_P (P := fun w : Nat → Int32 => w j = x j) (fun _ => by rw [upd_ne h10, upd_ne h8, upd_ne h7, upd_ne h6]) (fun _ => by rw [upd_ne h7, upd_ne h6])
theorem en_6 {x : Nat → Int32} : s_X1_enter_w0 a x 6 = a := by
  unfold s_X1_enter_w0
  (try dsimp only)
  exact ite_P (P := fun w : Nat → Int32 => w 6 = a) (fun _ => rfl) (fun _ => rfl)
theorem en_7 {x : Nat → Int32} : s_X1_enter_w0 a x 7 = if a = 1 then 1 else 0 := by
  unfold s_X1_enter_w0
  (try dsimp only)
  exact ite_P (P := fun w : Nat → Int32 => w 7 = if a = 1 then 1 else 0) (fun _ => rfl) (fun _ => rfl)
theorem en_8 {x : Nat → Int32} : s_X1_enter_w0 a x 8 = if a = 2 then 0 else x 8 := by
  unfold s_X1_enter_w0
  (try dsimp only)
  by_cases c : a = 2
  · rw [if_pos c, if_pos c]; rfl
  · rw [if_neg c, if_neg c]; rfl
theorem en_10 {x : Nat → Int32} : s_X1_enter_w0 a x 10 = if a = 2 then 0 else x 10 := by
  unfold s_X1_enter_w0
  (try dsimp only)
  by_cases c : a = 2
  · rw [if_pos c, if_pos c]; rfl
  · rw [if_neg c, if_neg c]; rfl
theorem en_GC {x : Nat → Int32} (h : GC x) (ha : md3 a) : GC (s_X1_enter_w0 a x) := by
  obtain ⟨⟨a0, a1, a2⟩, ⟨a3, a4, a5⟩, a6, a7, a67, a8, a10⟩ := h
  refine ⟨⟨by rw [en_k (by decide) (by decide) (by decide) (by decide)]; exact a0, by rw [en_k (by decide) (by decide) (by decide) (by decide)]; exact a1, by rw [en_k (by decide) (by decide) (by decide) (by decide)]; exact a2⟩, ⟨by rw [en_k (by decide) (by decide) (by decide) (by decide)]; exact a3, by rw [en_k (by decide) (by decide) (by decide) (by decide)]; exact a4, by rw [en_k (by decide) (by decide) (by decide) (by decide)]; exact a5⟩, by rw [en_6]; exact ha, ?_, ?_, ?_, ?_⟩
  · rw [en_7]
    by_cases c : a = 1
    · rw [if_pos c]; exact Or.inr rfl
    · rw [if_neg c]; exact Or.inl rfl
  · rw [en_6, en_7]
    exact fun c => if_neg c
  · rw [en_8]
    exact ite_P (P := fun w => rg w (-9999) 9999) (fun _ => ⟨by decide, by decide⟩) (fun _ => a8)
  · rw [en_10]
    exact ite_P (P := fun w : Int32 => w = 0 ∨ w = 1) (fun _ => Or.inl rfl) (fun _ => a10)
theorem bo_GW {w fp fh fl fe : Nat → Int32} {C : Int} (h : GW w fp fh fl fe C) : GW (s_X8_breakOff_w0 w) fp fh fl fe C := by
  obtain ⟨h6, h8, h9, n, hn, hw, hs, -⟩ := h
  exact ⟨Or.inl rfl, h8, h9, n, hn, hw, hs, fun q => absurd (show (0 : Int32) = 1 from q) (by decide)⟩
/-- the mode is changed -/
theorem cm_GZ (h : GZ B z) (ha : md3 a) : GZ B (s_X7_changeMode_z a z) := by
  by_cases c : a = z 3 6
  · have e : s_X7_changeMode_z a z = z := by
      refine zs_ext (c13 rfl rfl rfl ?_ ?_ rfl rfl rfl rfl rfl rfl rfl rfl) (fun _ => rfl)
      · show (if s_X11_isMode_r a = 0 then z 3 else if a = z 3 6 then z 3 else s_X1_enter_w0 a (z 3)) = z 3
        rw [if_pos c]; exact ite_self _
      · show (if s_X11_isMode_r a = 0 then z 4 else if a = z 3 6 then z 4 else s_X8_breakOff_w0 (z 4)) = z 4
        rw [if_pos c]; exact ite_self _
    rw [e]
    exact h
  · have e3 : s_X7_changeMode_z a z 3 = s_X1_enter_w0 a (z 3) := (if_neg (md_isMode ha)).trans (if_neg c)
    have e4 : s_X7_changeMode_z a z 4 = s_X8_breakOff_w0 (z 4) := (if_neg (md_isMode ha)).trans (if_neg c)
    obtain ⟨h0, hP, hC, hW, hT, a1, a2, a3, a4, a5, a6⟩ := h
    refine ⟨h0, hP, by rw [e3]; exact en_GC hC ha, by rw [e4]; exact bo_GW hW, hT, a1, a2, a3, a4, ?_, a6⟩
    rw [e4]
    intro q
    rcases q with q | q
    · exact a5 (Or.inl q)
    · exact absurd (show (0 : Int32) = 1 from q) (by decide)
theorem mode_GZ (h : GZ B z) (hk : s_X11_mode_k a = 0) : GZ B (s_X11_mode_z a z) := by
  rw [mode_eq]
  refine cm_GZ h (isMode_md (fun q => ?_))
  unfold s_X11_mode_k at hk
  rw [if_pos q] at hk
  exact absurd hk (by decide)
/-- a number is set -/
theorem sett_rg (h : ¬ s_X11_isSetting_r a b = 0) : ∃ k : Nat, a = nI k ∧ 5 ≤ k ∧ k ≤ 10 ∧ 0 ≤ b.toInt ∧ b.toInt ≤ (if k = 5 then 999 else if k = 6 then 20 else if k = 7 then 99 else 9999) := by
  unfold s_X11_isSetting_r at h
  dsimp only at h
  by_cases c1 : a < 5
  · rw [if_pos c1] at h; exact absurd rfl h
  rw [if_neg c1] at h
  by_cases c2 : 10 < a
  · rw [if_pos c2] at h; exact absurd rfl h
  rw [if_neg c2] at h
  by_cases c3 : b < 0
  · rw [if_pos c3] at h; exact absurd rfl h
  rw [if_neg c3] at h
  by_cases c4 : s_X1_most_r a < b
  · rw [if_pos c4] at h; exact absurd rfl h
  have d1 := mt t_lt.mpr c1
  have d2 := mt t_lt.mpr c2
  have d3 := mt t_lt.mpr c3
  have d4 := mt t_lt.mpr c4
  have e5 : (5 : Int32).toInt = 5 := rfl
  have e10 : (10 : Int32).toInt = 10 := rfl
  have e0 : (0 : Int32).toInt = 0 := rfl
  have et := t_tn (a := a) (by omega)
  refine ⟨tn a, t_nI (by omega), by omega, by omega, by omega, ?_⟩
  have en := t_nI (a := a) (by omega)
  have hk1 : 5 ≤ tn a := by omega
  have hk2 : tn a ≤ 10 := by omega
  generalize tn a = k at *
  subst en
  rcases (show k = 5 ∨ k = 6 ∨ k = 7 ∨ k = 8 ∨ k = 9 ∨ k = 10 by omega) with rfl | rfl | rfl | rfl | rfl | rfl
  · have : (s_X1_most_r (nI 5)).toInt = 999 := by decide
    rw [if_pos rfl]; omega
  · have : (s_X1_most_r (nI 6)).toInt = 20 := by decide
    rw [if_neg (by decide), if_pos rfl]; omega
  · have : (s_X1_most_r (nI 7)).toInt = 99 := by decide
    rw [if_neg (by decide), if_neg (by decide), if_pos rfl]; omega
  · have : (s_X1_most_r (nI 8)).toInt = 9999 := by decide
    rw [if_neg (by decide), if_neg (by decide), if_neg (by decide)]; omega
  · have : (s_X1_most_r (nI 9)).toInt = 9999 := by decide
    rw [if_neg (by decide), if_neg (by decide), if_neg (by decide)]; omega
  · have : (s_X1_most_r (nI 10)).toInt = 9999 := by decide
    rw [if_neg (by decide), if_neg (by decide), if_neg (by decide)]; omega
theorem put_3 (h : ¬ s_X11_isSetting_r a b = 0) {k : Nat} (e : a = nI k) (h1 : 5 ≤ k) (h2 : k ≤ 10) : s_X7_put_z a b z 3 = upd (z 3) (k - 5) b := by
  refine (if_neg h).trans ?_
  subst e
  rcases (show k = 5 ∨ k = 6 ∨ k = 7 ∨ k = 8 ∨ k = 9 ∨ k = 10 by omega) with rfl | rfl | rfl | rfl | rfl | rfl <;> rfl
theorem set_GZ (h : GZ B z) (hk : s_X11_set_k a b = 0) : GZ B (s_X11_set_z a b z) := by
  rw [set_eq]
  have hs : ¬ s_X11_isSetting_r a b = 0 := fun q => by
    unfold s_X11_set_k at hk
    rw [if_pos q] at hk
    exact absurd hk (by decide)
  obtain ⟨k, e, h1, h2, h3, h4⟩ := sett_rg hs
  obtain ⟨h0, hP, hC, hrest⟩ := h
  refine ⟨h0, hP, ?_, hrest⟩
  rw [put_3 hs e h1 h2]
  obtain ⟨⟨a0, a1, a2⟩, ⟨a3, a4, a5⟩, a6⟩ := hC
  rcases (show k = 5 ∨ k = 6 ∨ k = 7 ∨ k = 8 ∨ k = 9 ∨ k = 10 by omega) with rfl | rfl | rfl | rfl | rfl | rfl
  · exact ⟨⟨⟨h3, h4⟩, a1, a2⟩, ⟨a3, a4, a5⟩, a6⟩
  · exact ⟨⟨a0, ⟨h3, h4⟩, a2⟩, ⟨a3, a4, a5⟩, a6⟩
  · exact ⟨⟨a0, a1, ⟨h3, h4⟩⟩, ⟨a3, a4, a5⟩, a6⟩
  · exact ⟨⟨a0, a1, a2⟩, ⟨⟨h3, h4⟩, a4, a5⟩, a6⟩
  · exact ⟨⟨a0, a1, a2⟩, ⟨a3, ⟨h3, h4⟩, a5⟩, a6⟩
  · exact ⟨⟨a0, a1, a2⟩, ⟨a3, a4, ⟨h3, h4⟩⟩, a6⟩
/-- the heater is disturbed -/
theorem dist_r (hk : s_X11_disturb_k a = 0) : ¬ s_X11_isDisturbance_r a = 0 := fun q => by
  unfold s_X11_disturb_k at hk
  rw [if_pos q] at hk
  exact absurd hk (by decide)
theorem dist_1 (hk : s_X11_disturb_k a = 0) : s_X11_disturb_z a z 1 = upd (z 1) 5 (s_X11_within_r (z 1 5 + a) (-9999) 9999) ∧ s_X11_disturb_z a z 11 = upd (z 11) 5 (z 11 5 + 1) := by
  rw [dist_eq]
  exact ⟨if_neg (dist_r hk), if_neg (dist_r hk)⟩
theorem dist_GZ (h : GZ B z) (hk : s_X11_disturb_k a = 0) : GZ B (s_X11_disturb_z a z) := by
  obtain ⟨e1, e11⟩ := dist_1 (z := z) hk
  obtain ⟨h0, ⟨p0, p1, p2, p3, p4, p5, p7, pf⟩, hC, hW, hT, a1, a2, a3, a4, a5, a6⟩ := h
  have e2 : s_X11_disturb_z a z 2 = z 2 := rfl
  have e4 : s_X11_disturb_z a z 1 4 = z 1 4 := by rw [e1]; rfl
  refine ⟨h0, ?_, hC, hW, hT, ?_⟩
  · rw [e1, e2]
    exact ⟨p0, p1, p2, p3, p4, within_rg (b := -9999) (c := 9999) (by decide), p7, pf⟩
  · rw [e4, e11]
    exact ⟨a1, a2, a3, a4, a5, a6⟩
/-- a swing is discarded -/
theorem disc_has (hk : s_X11_discard_k a z = 0) {n : Nat} (hn : n ≤ 20) (e : z 4 0 = nI n) : ∃ j, j < n ∧ a = nI j := by
  unfold s_X11_discard_k at hk
  have hh : ¬ s_X8_has_r a (z 4) = 0 := fun q => by
    rw [if_pos q] at hk
    exact absurd hk (by decide)
  unfold s_X8_has_r at hh
  dsimp only at hh
  by_cases c1 : a < 0
  · rw [if_pos c1] at hh; exact absurd rfl hh
  rw [if_neg c1] at hh
  by_cases c2 : z 4 0 ≤ a
  · rw [if_pos c2] at hh; exact absurd rfl hh
  have d1 := mt t_lt.mpr c1
  have d2 := mt t_le.mpr c2
  rw [e, t_n (by omega)] at d2
  have e0 : (0 : Int32).toInt = 0 := rfl
  have et := t_tn (a := a) (by omega)
  exact ⟨tn a, by omega, t_nI (by omega)⟩
theorem disc_z {n j : Nat} (hn : n ≤ 20) (e : z 4 0 = nI n) (hj : j < n) : s_X11_discard_z (nI j) z 4 = upd (z 4) 0 (nI (n - 1)) ∧ s_X11_discard_z (nI j) z 5 = drJ j (n - 1) (z 5) ∧ s_X11_discard_z (nI j) z 6 = drJ j (n - 1) (z 6) ∧ s_X11_discard_z (nI j) z 7 = drJ j (n - 1) (z 7) ∧ s_X11_discard_z (nI j) z 8 = drJ j (n - 1) (z 8) := by
  obtain ⟨d0, d1⟩ := dropX (w := z 4) e hn rfl hj
  exact ⟨d0, (d1 _).1, (d1 _).2.1, (d1 _).2.2.1, (d1 _).2.2.2⟩
theorem disc_GZ (h : GZ B z) (hk : s_X11_discard_k a z = 0) : GZ B (s_X11_discard_z a z) := by
  obtain ⟨h0, hP, hC, ⟨g6, g8, g9, n, hn, e, hs, hg⟩, hT, a1, a2, a3, a4, a5, a6⟩ := h
  obtain ⟨j, hj, rfl⟩ := disc_has hk hn e
  obtain ⟨q4, q5, q6, q7, q8⟩ := disc_z hn e hj
  have et := cnt_t hn e
  have w6 : upd (z 4) 0 (nI (n - 1)) 6 = z 4 6 := rfl
  have w0 : upd (z 4) 0 (nI (n - 1)) 0 = nI (n - 1) := rfl
  refine ⟨h0, hP, hC, ?_, hT, a1, a2, a3, a4, ?_, a6⟩
  · rw [q4, q5, q6, q7, q8]
    refine ⟨g6, g8, g9, n - 1, by omega, rfl, hs.drop hj, fun q => ?_⟩
    obtain ⟨k1, k2, k3⟩ := hg q
    exact ⟨k1, k2, fun q2 => Int.le_trans (hs.dropEnd hj q2) (k3 (by omega))⟩
  · rw [q4, w0, w6, t_n (by omega)]
    intro q
    have h9 : 0 < (z 4 0).toInt ∨ z 4 6 = 1 := by
      rcases q with q | q
      · exact Or.inl (by omega)
      · exact Or.inr q
    have := a5 h9
    show ((n - 1 : Nat) : Int) + 1 ≤ (z 11 4).toInt
    omega
/-- open trials are kept -/
theorem acc_GZ (h : GZ B z) : GZ B (s_X11_accept_z z) := by
  obtain ⟨h0, hP, hC, hW, -, hA⟩ := h
  exact ⟨h0, hP, hC, hW, ⟨0, by omega, rfl, fun t ht => absurd ht (Nat.not_lt_zero _)⟩, hA⟩
/-- a trial is taken back -/
theorem end_z {n : Nat} (hn : n ≤ 8) (e : z 9 0 = nI n) (h1 : 0 < n) : s_X7_endTrial_z z = s_X7_changeMode_z (z 10 (4 * (n - 1) + 3)) (zU (zU z 3 (upd (upd (upd (z 3) 3 (z 10 (4 * (n - 1)))) 4 (z 10 (4 * (n - 1) + 1))) 5 (z 10 (4 * (n - 1) + 2)))) 9 (upd (z 9) 0 (nI (n - 1)))) := by
  have n0 : ¬ z 9 0 = 0 := by rw [e]; exact fun q => by have := (nI_z (t := n) (by omega)).mp q; omega
  have n1 : ¬ z 9 0 < 1 := by rw [e]; exact fun q => absurd ((nI_ltI (a := n) (b := 1) (by omega) (by decide)).mp q) (by omega)
  have n8 : z 9 0 ≤ 8 := by rw [e]; exact (nI_leI (a := n) (b := 8) (by omega) (by decide)).mpr hn
  have em : z 9 0 - 1 = nI (n - 1) := by rw [e]; exact pk_sub (a := n) (b := 1) (by omega)
  have et : tn (z 9 0 - 1) = n - 1 := by rw [em]; exact nI_clamp (by omega)
  have er : s_X10_close_r (z 9) (z 10) (z 3) = z 10 (4 * (n - 1) + 3) := by unfold s_X10_close_r; rw [if_neg n1, if_pos n8, et]
  have e0 : s_X10_close_w0 (z 9) = upd (z 9) 0 (nI (n - 1)) := by unfold s_X10_close_w0; rw [if_neg n1, if_pos n8, em]
  have e2 : s_X10_close_w2 (z 9) (z 10) (z 3) = upd (upd (upd (z 3) 3 (z 10 (4 * (n - 1)))) 4 (z 10 (4 * (n - 1) + 1))) 5 (z 10 (4 * (n - 1) + 2)) := by unfold s_X10_close_w2; rw [if_neg n1, if_pos n8, et]
  rw [← er, ← e0, ← e2]
  have hi : ∀ i, zU (zU z 3 (s_X10_close_w2 (z 9) (z 10) (z 3))) 9 (s_X10_close_w0 (z 9)) (i + 13) = z (i + 13) := fun i => by
    unfold zU
    rw [if_neg (by omega), if_neg (by omega)]
  exact zs_ext (c13 (if_neg n0) rfl rfl (if_neg n0) (if_neg n0) rfl rfl rfl rfl (if_neg n0) (if_neg n0) rfl rfl) (fun i => (hi i).symm)
theorem take_n (h : GZ B z) (hk : s_X11_takeBack_k z = 0) : ∃ n, n ≤ 8 ∧ z 9 0 = nI n ∧ 0 < n := by
  obtain ⟨n, hn, e, -⟩ := h.2.2.2.2.1
  refine ⟨n, hn, e, Nat.pos_of_ne_zero (fun q => ?_)⟩
  unfold s_X11_takeBack_k at hk
  rw [e, q, if_pos (show nI 0 = 0 from rfl)] at hk
  exact absurd hk (by decide)
theorem take_GZ (h : GZ B z) (hk : s_X11_takeBack_k z = 0) : GZ B (s_X11_takeBack_z z) := by
  obtain ⟨n, hn, e, h1⟩ := take_n h hk
  rw [take_eq, end_z hn e h1]
  obtain ⟨h0, hP, ⟨c0, -, c6⟩, hW, ⟨n2, hn2, e2, ht⟩, hA⟩ := h
  have en : n2 = n := by
    have := congrArg Int32.toInt (e2.symm.trans e)
    rw [t_n (by omega), t_n (by omega)] at this
    omega
  subst en
  obtain ⟨t0, t1, t2, t3⟩ := ht (n2 - 1) (by omega)
  refine cm_GZ ⟨h0, hP, ⟨c0, ⟨t0, t1, t2⟩, c6⟩, hW, ⟨n2 - 1, by omega, rfl, fun t ht9 => ht t (by omega)⟩, hA⟩ t3
end OPS

section TICK2
variable {z : Nat → Nat → Int32} {f v x fq : Nat → Int32} {N n d : Nat} {r : Int32}
theorem pw_ix : ∀ n d : Fin 10, (if 0 ≤ nI n.val - nI d.val then nI n.val - nI d.val else nI n.val - nI d.val + 10) = nI ((n.val + (10 - d.val)) % 10) := by decide +kernel
theorem nw_ix : ∀ n : Fin 10, (if nI n.val < 0 then 0 else (if 10 ≤ nI n.val + 1 then 0 else nI n.val + 1)) = nI ((n.val + 1) % 10) := by decide +kernel
theorem power_at (h7 : x 7 = nI n) (hn : n < 10) (h2 : x 2 = nI d) (hd : d < 10) : s_X3_power_r x fq = fq ((n + (10 - d)) % 10) := by
  have e := pw_ix ⟨n, hn⟩ ⟨d, hd⟩
  dsimp only at e
  have hm : (n + (10 - d)) % 10 < 10 := Nat.mod_lt _ (by decide)
  unfold s_X3_power_r
  try simp only []
  rw [h7, h2, e, if_neg (show ¬ nI ((n + (10 - d)) % 10) < 0 from Int32.not_lt.mpr (show (0 : Int32) ≤ nI ((n + (10 - d)) % 10) from nI_le (a := 0) (Nat.zero_le _) (by omega))), if_neg (fun h : (10 : Int32) ≤ nI ((n + (10 - d)) % 10) => absurd ((nI_leI (a := 10) (b := (n + (10 - d)) % 10) (by decide) (by omega)).mp h) (by omega)), show tn (nI ((n + (10 - d)) % 10)) = (n + (10 - d)) % 10 from nI_clamp (by omega)]
theorem work_5 {v2 : Int32} (e : v2 = (if x 7 < 0 then 0 else (if 10 ≤ x 7 + 1 then 0 else x 7 + 1))) : s_X3_work_w0 r x fq 5 = s_X11_within_r (x 5 + (if (if x 1 ≤ 0 then 0 else (x 3 + x 0 * s_X3_power_r (upd x 7 v2) (upd fq (tn v2) r) - x 5) / x 1) = 0 then s_J6_compare_7cf53_r (x 3 + x 0 * s_X3_power_r (upd x 7 v2) (upd fq (tn v2) r)) (x 5) else (if x 1 ≤ 0 then 0 else (x 3 + x 0 * s_X3_power_r (upd x 7 v2) (upd fq (tn v2) r) - x 5) / x 1))) (-9999) 9999 := by
  subst e
  rfl
theorem work_7 (h7 : x 7 = nI n) (hn : n < 10) : s_X3_work_w0 r x fq 7 = nI ((n + 1) % 10) ∧ s_X3_work_w1 r x fq = upd fq ((n + 1) % 10) r := by
  have e := nw_ix ⟨n, hn⟩
  dsimp only at e
  rw [← h7] at e
  refine ⟨e, ?_⟩
  show upd fq (tn (if x 7 < 0 then 0 else (if 10 ≤ x 7 + 1 then 0 else x 7 + 1))) r = _
  rw [e, show tn (nI ((n + 1) % 10)) = (n + 1) % 10 from nI_clamp (by omega)]
theorem work_k {k : Nat} (hk : k < 5) : s_X3_work_w0 r x fq k = x k := by
  unfold s_X3_work_w0 s_X3_warmBy_w0
  try simp only []
  rw [upd_ne (by omega), upd_ne (by omega)]
/-- the page behind the output, the pipe and the accounts -/
theorem tkB_18 : tkB v r 18 = r := by
  unfold tkB
  rw [upd_ne (by decide), shF_out (by omega)]
  exact pk_us
theorem tkB_25 : tkB v r 25 = r := pk_us
theorem tkB_pipe {k : Nat} (hk : k + 1 < 10) (h1 : vp_in (v 11) 3) : tkB v r (25 + (k + 1)) = v (25 + k) := by
  have := (in_tn h1 (by decide)).2
  unfold tkB
  rw [upd_ne (by omega)]
  simp only [shF]
  rw [if_pos (by omega), show 25 + (k + 1) - 1 = 25 + k by omega, upd_ne (by omega), upd_ne (by omega), upd_ne (by omega), upd_ne (by omega)]
theorem tkB_38 (h1 : vp_in (v 11) 3) : tkB v r 38 = v 38 + r := by
  have := (in_tn h1 (by decide)).2
  unfold tkB
  rw [upd_ne (by decide), shF_out (by omega), upd_ne (by decide), upd_ne (by omega)]
  exact pk_us
theorem tkB_39 (h1 : vp_in (v 11) 3) : tkB v r 39 = v 39 + (if r = v 18 then 0 else 1) := by
  have := (in_tn h1 (by decide)).2
  unfold tkB
  rw [upd_ne (by decide), shF_out (by omega), upd_ne (by decide), upd_ne (by omega), upd_ne (by decide)]
  exact pk_us
theorem tkB_cnt {k m : Nat} (hk : k < 3) (hm : v 11 = nI m) (h3 : m < 3) : tkB v r (35 + k) = if k = m then v (35 + k) + 1 else v (35 + k) := by
  have e : tn (v 11) = m := by rw [hm]; exact nI_clamp (by omega)
  unfold tkB
  rw [upd_ne (by omega), shF_out (by omega), upd_ne (by omega), e]
  by_cases q : k = m
  · subst q
    rw [if_pos rfl, pk_us, upd_ne (by omega), upd_ne (by omega)]
  · rw [if_neg q, upd_ne (by omega), upd_ne (by omega), upd_ne (by omega)]
theorem warm_12 (w : Nat → Int32) : s_X12_warm_w0 w 12 = s_X12_within_r (w 12 + (if (w 3 + w 0 * w (25 + tn (w 2)) - w 12) / w 1 = 0 then (if w 3 + w 0 * w (25 + tn (w 2)) - w 12 = 0 then (w 3 + w 0 * w (25 + tn (w 2)) - w 12) / w 1 else (if w 3 + w 0 * w (25 + tn (w 2)) - w 12 ≤ 0 then (-1) else 1)) else (w 3 + w 0 * w (25 + tn (w 2)) - w 12) / w 1)) (-9999) 9999 := rfl
theorem tkC_12 (w : Nat → Int32) : tkC w 12 = s_X12_warm_w0 w 12 := upd_ne (by decide)
theorem tkC_13 (w : Nat → Int32) : tkC w 13 = w 13 + 1 := by
  unfold tkC
  rw [pk_us]
  rfl
/-- the State behind a tick, but for its swings -/
def ztk (z : Nat → Nat → Int32) : Nat → Nat → Int32 := fun i => match i with
  | 0 => upd (z 0) 0 (z 0 0 + 1)
  | 1 => poP z
  | 2 => s_X3_work_w1 (poR z) (z 1) (z 2)
  | 3 => poC z
  | 11 => s_X0_addTick_w0 (poR z) (z 11)
  | 12 => s_X0_addTick_w1 (poC z 6) (z 12)
  | _ => z i
abbrev pgC (f : Nat → Int32) : Nat → Int32 := tkC (tkB (tkA f) (tkR f))
theorem pgC_low (h : RZ N z f) {j : Nat} (hj : j < 25) (h1 : j ≠ 12) (h2 : j ≠ 13) (h3 : j ≠ 14) (h4 : j ≠ 15) (h5 : j ≠ 18) (h6 : j ≠ 19) (h7 : j ≠ 20) : pgC f j = f j := tkAll_keep hj h3 h4 h6 h7 h5 h1 h2
theorem A11 (h : RZ N z f) : vp_in (tkA f 11) 3 := by
  rw [tkA_keep (by decide) (by decide) (by decide) (by decide)]
  exact h.2.2.2.2.2.2.1.1
theorem pgC_high (h : RZ N z f) {j : Nat} (hj : 40 ≤ j) : pgC f j = f j := by
  unfold pgC
  rw [tkC_keep (by omega) (by omega), tkB_high hj (A11 h), tkA_keep (by omega) (by omega) (by omega) (by omega)]
theorem pgC_pipe (h : RZ N z f) {k : Nat} (hk : k + 1 < 10) : pgC f (25 + (k + 1)) = f (25 + k) := by
  unfold pgC
  rw [tkC_keep (by omega) (by omega), tkB_pipe hk (A11 h), tkA_keep (by omega) (by omega) (by omega) (by omega)]
theorem pgC_25 : pgC f 25 = tkR f := by
  unfold pgC
  rw [tkC_keep (by omega) (by omega), tkB_25]
theorem pgC_mid {j : Nat} (hj : j = 14 ∨ j = 15 ∨ j = 19 ∨ j = 20) : pgC f j = tkA f j := by
  unfold pgC
  rw [tkC_keep (by omega) (by omega), tkB_keep (by omega) (by omega)]
theorem tick_P (h : RZ N z f) : rlP (ztk z) (pgC f) ∧ bI (pgC f 12) (-9999) 9999 := by
  obtain ⟨o1, o2, o3, -⟩ := out_rel h
  obtain ⟨⟨p0, ⟨p1, p2, p3, p4, p5⟩, p6, p7, p8⟩, -, -, -, -, ⟨⟨a1, a2, a3, a4, a5, a6⟩, -, -, d1, -, -⟩⟩ := id h
  obtain ⟨e7, hn⟩ := in_tn p7 (by decide)
  obtain ⟨e2, hd⟩ := in_tn a3 (by decide)
  obtain ⟨w7, w1⟩ := work_7 (r := poR z) (fq := z 2) e7 hn
  have hpipe : ∀ k, k < 10 → upd (z 2) ((tn (z 1 7) + 1) % 10) (poR z) (((tn (z 1 7) + 1) % 10 + (10 - k)) % 10) = pgC f (25 + k) := by
    intro k hk
    rcases Nat.eq_zero_or_pos k with q | q
    · subst q
      rw [show ((tn (z 1 7) + 1) % 10 + (10 - 0)) % 10 = (tn (z 1 7) + 1) % 10 by omega, pk_us, o1]
      exact pgC_25.symm
    · obtain ⟨k', rfl⟩ : ∃ k', k = k' + 1 := ⟨k - 1, by omega⟩
      rw [upd_ne (by omega), pgC_pipe h hk, ← p8 k' (by omega)]
      congr 1
      omega
  have e12 : poP z 5 = pgC f 12 := by
    unfold poP
    rw [work_5 (v2 := nI ((tn (z 1 7) + 1) % 10)) (by have e := nw_ix ⟨tn (z 1 7), hn⟩; dsimp only at e; rw [← e7] at e; exact e.symm)]
    have et : tn (nI ((tn (z 1 7) + 1) % 10)) = (tn (z 1 7) + 1) % 10 := nI_clamp (by omega)
    rw [et, power_at (n := (tn (z 1 7) + 1) % 10) (d := tn (f 2)) pk_us (by omega) (by rw [upd_ne (by decide), p3]; exact e2) hd, hpipe (tn (f 2)) hd, p1, p2, p4, p6, within_eq]
    have hB : ∀ j, j < 25 → j ≠ 12 → j ≠ 14 → j ≠ 15 → j ≠ 18 → j ≠ 19 → j ≠ 20 → tkB (tkA f) (tkR f) j = f j := fun j h1 h2 h3 h4 h5 h6 h7 => by rw [tkB_keep h1 h5, tkA_keep h3 h4 h6 h7]
    have hB12 : tkB (tkA f) (tkR f) 12 = f 12 := by rw [tkB_keep (by decide) (by decide), tkA_keep (by decide) (by decide) (by decide) (by decide)]
    have hBp : tkB (tkA f) (tkR f) (25 + tn (f 2)) = pgC f (25 + tn (f 2)) := by
      unfold pgC
      rw [tkC_keep (by omega) (by omega)]
    have hpb : bI (pgC f (25 + tn (f 2))) 0 99 := by
      rcases Nat.eq_zero_or_pos (tn (f 2)) with q | q
      · rw [q]
        show bI (pgC f 25) 0 99
        rw [pgC_25]
        exact o2
      · obtain ⟨k', hk'⟩ : ∃ k', tn (f 2) = k' + 1 := ⟨tn (f 2) - 1, by omega⟩
        rw [hk', pgC_pipe h (by omega)]
        exact d1 k' (by omega)
    unfold pgC
    rw [tkC_12, warm_12, hB 3 (by decide) (by decide) (by decide) (by decide) (by decide) (by decide) (by decide), hB 0 (by decide) (by decide) (by decide) (by decide) (by decide) (by decide) (by decide), hB 1 (by decide) (by decide) (by decide) (by decide) (by decide) (by decide) (by decide), hB 2 (by decide) (by decide) (by decide) (by decide) (by decide) (by decide) (by decide), hB12, hBp]
    rw [warm_eq a1 hpb a4 a6 a2]
  refine ⟨⟨?_, ⟨?_, ?_, ?_, ?_, ?_⟩, e12, ?_, ?_⟩, ?_⟩
  · show z 0 0 + 1 = pgC f 13
    unfold pgC
    rw [tkC_13, tkB_keep (by decide) (by decide), tkA_keep (by decide) (by decide) (by decide) (by decide), p0]
  · show poP z 0 = _
    unfold poP
    rw [work_k (by decide), pgC_low h (by decide) (by decide) (by decide) (by decide) (by decide) (by decide) (by decide) (by decide)]
    exact p1
  · show poP z 1 = _
    unfold poP
    rw [work_k (by decide), pgC_low h (by decide) (by decide) (by decide) (by decide) (by decide) (by decide) (by decide) (by decide)]
    exact p2
  · show poP z 2 = _
    unfold poP
    rw [work_k (by decide), pgC_low h (by decide) (by decide) (by decide) (by decide) (by decide) (by decide) (by decide) (by decide)]
    exact p3
  · show poP z 3 = _
    unfold poP
    rw [work_k (by decide), pgC_low h (by decide) (by decide) (by decide) (by decide) (by decide) (by decide) (by decide) (by decide)]
    exact p4
  · show poP z 4 = _
    unfold poP
    rw [work_k (by decide), pgC_low h (by decide) (by decide) (by decide) (by decide) (by decide) (by decide) (by decide) (by decide)]
    exact p5
  · show vp_in (poP z 7) 10
    unfold poP
    rw [w7]
    exact vp_in_nI (Nat.mod_lt _ (by decide)) (by decide)
  · intro k hk
    show s_X3_work_w1 (poR z) (z 1) (z 2) ((tn (poP z 7) + (10 - k)) % 10) = _
    have e9 : poP z 7 = nI ((tn (z 1 7) + 1) % 10) := w7
    rw [e9, w1, show tn (nI ((tn (z 1 7) + 1) % 10)) = (tn (z 1 7) + 1) % 10 from nI_clamp (by omega)]
    exact hpipe k hk
  · show bI (tkC (tkB (tkA f) (tkR f)) 12) _ _
    rw [tkC_12, warm_12]
    exact within_b (by decide)
theorem tick_C (h : RZ N z f) : rlC (ztk z) (pgC f) := by
  obtain ⟨-, -, o3, o4, o5, o6, o7, -⟩ := out_rel h
  obtain ⟨-, ⟨⟨q0, q1, q2, q3, q4, q5⟩, q6, -⟩, -⟩ := id h
  refine ⟨⟨?_, ?_, ?_, ?_, ?_, ?_⟩, ?_, o4.trans (pgC_mid (by omega)).symm, o5.trans (pgC_mid (by omega)).symm, o6.trans (pgC_mid (by omega)).symm, o7.trans (pgC_mid (by omega)).symm⟩
  · rw [pgC_low h (by decide) (by decide) (by decide) (by decide) (by decide) (by decide) (by decide) (by decide)]
    exact (o3 0 (by decide)).trans q0
  · rw [pgC_low h (by decide) (by decide) (by decide) (by decide) (by decide) (by decide) (by decide) (by decide)]
    exact (o3 1 (by decide)).trans q1
  · rw [pgC_low h (by decide) (by decide) (by decide) (by decide) (by decide) (by decide) (by decide) (by decide)]
    exact (o3 2 (by decide)).trans q2
  · rw [pgC_low h (by decide) (by decide) (by decide) (by decide) (by decide) (by decide) (by decide) (by decide)]
    exact (o3 3 (by decide)).trans q3
  · rw [pgC_low h (by decide) (by decide) (by decide) (by decide) (by decide) (by decide) (by decide) (by decide)]
    exact (o3 4 (by decide)).trans q4
  · rw [pgC_low h (by decide) (by decide) (by decide) (by decide) (by decide) (by decide) (by decide) (by decide)]
    exact (o3 5 (by decide)).trans q5
  · rw [pgC_low h (by decide) (by decide) (by decide) (by decide) (by decide) (by decide) (by decide) (by decide)]
    exact (o3 6 (by decide)).trans q6
theorem tick_T (h : RZ N z f) : rlT (ztk z) (pgC f) := h.2.2.2.1.cong rfl rfl (fun j hj => by
  rcases hj with q | q
  · subst q
    exact pgC_low h (by decide) (by decide) (by decide) (by decide) (by decide) (by decide) (by decide) (by decide)
  · exact pgC_high h (by omega))
theorem tick_A (h : RZ N z f) : rlA (ztk z) (pgC f) := by
  obtain ⟨o1, -, o3, -⟩ := out_rel h
  obtain ⟨-, ⟨-, q6, -⟩, -, -, ⟨g1, g2, g3, g4, g5, g6, g7, g8⟩, ⟨-, ⟨b1, -⟩, -⟩⟩ := id h
  obtain ⟨m, hm, e11⟩ := vp_in_of b1 (by decide)
  have eA : ∀ j, j ≠ 14 → j ≠ 15 → j ≠ 19 → j ≠ 20 → tkA f j = f j := fun j h1 h2 h3 h4 => tkA_keep h1 h2 h3 h4
  have eC : ∀ j, j ≠ 12 → j ≠ 13 → pgC f j = tkB (tkA f) (tkR f) j := fun j h1 h2 => tkC_keep h1 h2
  have A11' := A11 h
  have em : poC z 6 = nI m := (o3 6 (by decide)).trans (q6.trans e11)
  refine ⟨?_, ?_, ?_, ?_, ?_, ?_, ?_, ?_⟩
  · rw [eC 18 (by decide) (by decide), tkB_18, ← o1]
    show s_X0_addTick_w0 (poR z) (z 11) 1 = poR z
    unfold s_X0_addTick_w0
    exact pk_us
  · rw [eC 38 (by decide) (by decide), tkB_38 A11', eA 38 (by decide) (by decide) (by decide) (by decide)]
    show s_X0_addTick_w0 (poR z) (z 11) 2 = _
    unfold s_X0_addTick_w0
    try simp only []
    rw [upd_ne (by decide), ← g2, ← o1]
    exact ite_P (P := fun w : Nat → Int32 => w 2 = z 11 2 + poR z) (fun _ => rfl) (fun _ => rfl)
  · rw [eC 39 (by decide) (by decide), tkB_39 A11', eA 39 (by decide) (by decide) (by decide) (by decide), eA 18 (by decide) (by decide) (by decide) (by decide)]
    show s_X0_addTick_w0 (poR z) (z 11) 3 = _
    unfold s_X0_addTick_w0
    try simp only []
    rw [upd_ne (by decide), ← g3, ← o1, ← g1]
    by_cases k : poR z = z 11 1
    · rw [if_pos k, if_pos k]
      simp [upd]
    · rw [if_neg k, if_neg k]
      rfl
  · rw [pgC_high h (by decide)]
    show s_X0_addTick_w0 (poR z) (z 11) 4 = _
    unfold s_X0_addTick_w0
    try simp only []
    rw [upd_ne (by decide), ← g4]
    exact ite_P (P := fun w : Nat → Int32 => w 4 = z 11 4) (fun _ => rfl) (fun _ => rfl)
  · rw [pgC_high h (by decide)]
    show s_X0_addTick_w0 (poR z) (z 11) 5 = _
    unfold s_X0_addTick_w0
    try simp only []
    rw [upd_ne (by decide), ← g5]
    exact ite_P (P := fun w : Nat → Int32 => w 5 = z 11 5) (fun _ => rfl) (fun _ => rfl)
  · rw [eC 35 (by decide) (by decide), show (35 : Nat) = 35 + 0 from rfl, tkB_cnt (k := 0) (m := m) (by decide) ((eA 11 (by decide) (by decide) (by decide) (by decide)).trans e11) hm, eA 35 (by decide) (by decide) (by decide) (by decide)]
    show s_X0_addTick_w1 (poC z 6) (z 12) 0 = _
    rw [em, ← g6]
    rcases (show m = 0 ∨ m = 1 ∨ m = 2 by omega) with rfl | rfl | rfl <;> rfl
  · rw [eC 36 (by decide) (by decide), show (36 : Nat) = 35 + 1 from rfl, tkB_cnt (k := 1) (m := m) (by decide) ((eA 11 (by decide) (by decide) (by decide) (by decide)).trans e11) hm, eA 36 (by decide) (by decide) (by decide) (by decide)]
    show s_X0_addTick_w1 (poC z 6) (z 12) 1 = _
    rw [em, ← g7]
    rcases (show m = 0 ∨ m = 1 ∨ m = 2 by omega) with rfl | rfl | rfl <;> rfl
  · rw [eC 37 (by decide) (by decide), show (37 : Nat) = 35 + 2 from rfl, tkB_cnt (k := 2) (m := m) (by decide) ((eA 11 (by decide) (by decide) (by decide) (by decide)).trans e11) hm, eA 37 (by decide) (by decide) (by decide) (by decide)]
    show s_X0_addTick_w1 (poC z 6) (z 12) 2 = _
    rw [em, ← g8]
    rcases (show m = 0 ∨ m = 1 ∨ m = 2 by omega) with rfl | rfl | rfl <;> rfl
theorem tick_I (h : RZ N z f) : rlI N (pgC f) := by
  obtain ⟨-, o2, -, -, -, -, -, o8, o9⟩ := out_rel h
  have hh := (tick_P h).2
  obtain ⟨-, -, -, -, -, ⟨⟨a1, a2, a3, a4, a5, a6⟩, ⟨b1, b2, b3⟩, ⟨c1, c2, c3⟩, d1, d2, d3⟩⟩ := id h
  have L : ∀ j, j < 25 → j ≠ 12 → j ≠ 13 → j ≠ 14 → j ≠ 15 → j ≠ 18 → j ≠ 19 → j ≠ 20 → pgC f j = f j := fun j h0 h1 h2 h3 h4 h5 h6 h7 => pgC_low h h0 h1 h2 h3 h4 h5 h6 h7
  unfold rlI
  rw [L 0 (by decide) (by decide) (by decide) (by decide) (by decide) (by decide) (by decide) (by decide), L 1 (by decide) (by decide) (by decide) (by decide) (by decide) (by decide) (by decide) (by decide), L 2 (by decide) (by decide) (by decide) (by decide) (by decide) (by decide) (by decide) (by decide), L 3 (by decide) (by decide) (by decide) (by decide) (by decide) (by decide) (by decide) (by decide), L 4 (by decide) (by decide) (by decide) (by decide) (by decide) (by decide) (by decide) (by decide), L 11 (by decide) (by decide) (by decide) (by decide) (by decide) (by decide) (by decide) (by decide), L 16 (by decide) (by decide) (by decide) (by decide) (by decide) (by decide) (by decide) (by decide), L 17 (by decide) (by decide) (by decide) (by decide) (by decide) (by decide) (by decide) (by decide), L 21 (by decide) (by decide) (by decide) (by decide) (by decide) (by decide) (by decide) (by decide), L 22 (by decide) (by decide) (by decide) (by decide) (by decide) (by decide) (by decide) (by decide), pgC_mid (f := f) (j := 14) (by omega), pgC_mid (f := f) (j := 19) (by omega)]
  refine ⟨⟨a1, a2, a3, a4, a5, hh⟩, ⟨b1, b2, b3⟩, ⟨o8, o9, c3⟩, fun k hk => ?_, d2, fun t ht => by rw [pgC_high h (by omega)]; exact d3 t ht⟩
  rcases Nat.eq_zero_or_pos k with q | q
  · subst q
    show bI (pgC f 25) 0 99
    rw [pgC_25]
    exact o2
  · obtain ⟨k', rfl⟩ : ∃ k', k = k' + 1 := ⟨k - 1, by omega⟩
    rw [pgC_pipe h hk]
    exact d1 k' (by omega)
end TICK2

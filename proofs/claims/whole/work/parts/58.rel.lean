section DOES2
variable {z : Nat → Nat → Int32} {f : Nat → Int32} {N c q g : Nat}
/-- a script's command, by its digit and its number -/
def SR (c n : Int32) (z : Nat → Nat → Int32) : Int32 := (if c = 1 then (s_X7_pass_r n) else (if c = 2 then (s_X7_changeMode_r n) else (if c = 3 then (if (s_X5_hasSign_r n) = 0 then 0 else (if (s_X7_push_r (s_X5_signed_r n)) = 0 then 0 else 1)) else (if c = 4 then (s_X7_put_r (n / 1000) (n - n / 1000 * 1000)) else (if c = 5 then (s_X7_beginTrial_r n z) else (if c = 6 then (if n = 0 then (if (s_X7_endTrial_r z) = 0 then 0 else 1) else 0) else (if c = 7 then (if (s_X5_hasSign_r n) = 0 then 0 else (if ((z 1) 5) < (s_X5_signed_r n) then 0 else 1)) else (if c = 8 then (if 99 < n then 0 else (if (s_X7_goodCount_r z) < n then 0 else 1)) else (if c = 9 then (if 9 < n then 0 else (if ((z 9) 0) = n then 1 else 0)) else 0)))))))))
def SZ (c n : Int32) (z : Nat → Nat → Int32) : Nat → Nat → Int32 := (if c = 1 then s_X7_pass_z n z else (if c = 2 then s_X7_changeMode_z n z else (if c = 3 then (if (s_X5_hasSign_r n) = 0 then z else s_X7_push_z (s_X5_signed_r n) z) else (if c = 4 then s_X7_put_z (n / 1000) (n - n / 1000 * 1000) z else (if c = 5 then s_X7_beginTrial_z n z else (if c = 6 then (if n = 0 then s_X7_endTrial_z z else z) else z))))))
theorem SR_eq (x : Int32) (z : Nat → Nat → Int32) : s_X5_succeeds_r x z = SR (x / 10000) (x - x / 10000 * 10000) z := rfl
theorem SZ_eq (x : Int32) (z : Nat → Nat → Int32) : s_X5_succeeds_z x z = SZ (x / 10000) (x - x / 10000 * 10000) z := rfl
theorem b01 {P Q : Prop} [Decidable P] [Decidable Q] (h : P ↔ Q) : (if P then (0 : Int32) else 1) = (if Q then 0 else 1) := by
  by_cases p : P
  · rw [if_pos p, if_pos (h.mp p)]
  · rw [if_neg p, if_neg (mt h.mpr p)]
theorem bb0 {x : Int32} (h : x = 0 ∨ x = 1) : (if x = 0 then (0 : Int32) else 1) = x := by rcases h with rfl | rfl <;> rfl
theorem b00 {P : Prop} [Decidable P] : (if (if P then (0 : Int32) else 1) = 0 then (0 : Int32) else 1) = if P then 0 else 1 := by
  by_cases p : P
  · rw [if_pos p, if_pos rfl]
  · rw [if_neg p, if_neg (by decide)]
theorem sign_r (hq : q < 10000) : s_X5_hasSign_r (nI q) = (if 1 < nI (q / 1000) then 0 else 1) ∧ s_X5_signed_r (nI q) = (if nI (q / 1000) = 1 then (-(nI (q % 1000))) else nI (q % 1000)) := by
  obtain ⟨e1, e2⟩ := num_a hq
  unfold s_X5_hasSign_r s_X5_signed_r
  rw [e2, e1]
  exact ⟨rfl, rfl⟩
theorem SZ_0 {n : Int32} : SZ (nI 0) n z = z := by
  unfold SZ
  rw [if_neg (show ¬ nI 0 = 1 by decide), if_neg (show ¬ nI 0 = 2 by decide), if_neg (show ¬ nI 0 = 3 by decide), if_neg (show ¬ nI 0 = 4 by decide), if_neg (show ¬ nI 0 = 5 by decide), if_neg (show ¬ nI 0 = 6 by decide)]
theorem SR_0 {n : Int32} : SR (nI 0) n z = 0 := by
  unfold SR
  rw [if_neg (show ¬ nI 0 = 1 by decide), if_neg (show ¬ nI 0 = 2 by decide), if_neg (show ¬ nI 0 = 3 by decide), if_neg (show ¬ nI 0 = 4 by decide), if_neg (show ¬ nI 0 = 5 by decide), if_neg (show ¬ nI 0 = 6 by decide), if_neg (show ¬ nI 0 = 7 by decide), if_neg (show ¬ nI 0 = 8 by decide), if_neg (show ¬ nI 0 = 9 by decide)]
theorem dr_0 {a b : Int32} : s_X12_does_r (nI 0) a b f = 0 := by
  unfold s_X12_does_r
  rw [if_neg (show ¬ nI 0 = 1 by decide), if_neg (show ¬ nI 0 = 2 by decide), if_neg (show ¬ nI 0 = 3 by decide), if_neg (show ¬ nI 0 = 4 by decide), if_neg (show ¬ nI 0 = 5 by decide), if_neg (show ¬ nI 0 = 6 by decide), if_neg (show ¬ nI 0 = 7 by decide), if_neg (show ¬ nI 0 = 8 by decide), if_neg (show ¬ nI 0 = 9 by decide)]
theorem dw_0 {a b : Int32} : s_X12_does_w1 (nI 0) a b f = f := by
  unfold s_X12_does_w1
  rw [if_neg (show ¬ nI 0 = 1 by decide), if_neg (show ¬ nI 0 = 2 by decide), if_neg (show ¬ nI 0 = 3 by decide), if_neg (show ¬ nI 0 = 4 by decide), if_neg (show ¬ nI 0 = 5 by decide), if_neg (show ¬ nI 0 = 6 by decide), if_neg (show ¬ nI 0 = 7 by decide), if_neg (show ¬ nI 0 = 8 by decide), if_neg (show ¬ nI 0 = 9 by decide)]
theorem cmd_0 (h : RZ N z f) (hq : q < 10000) (hN : N + 200 < 2147483648) : SR (nI 0) (nI q) z = s_X12_does_r (nI 0) (nI (q / 1000)) (nI (q % 1000)) f ∧ RZ (N + 200) (SZ (nI 0) (nI q) z) (s_X12_does_w1 (nI 0) (nI (q / 1000)) (nI (q % 1000)) f) := by
  rw [SZ_0, SR_0, dr_0, dw_0]
  exact ⟨rfl, h.mono (show N ≤ N + 200 by omega)⟩
theorem cmd_1 (h : RZ N z f) (hq : q < 10000) (hN : N + 200 < 2147483648) : SR (nI 1) (nI q) z = s_X12_does_r (nI 1) (nI (q / 1000)) (nI (q % 1000)) f ∧ RZ (N + 200) (SZ (nI 1) (nI q) z) (s_X12_does_w1 (nI 1) (nI (q / 1000)) (nI (q % 1000)) f) := by
  have hm := h.mono (show N ≤ N + 200 by omega)
  have ha10 : q / 1000 < 10 := by omega
  have ht : q % 1000 < 1000 := Nat.mod_lt _ (by decide)
  have a0 : q < 1000 → nI (q / 1000) = 0 ∧ nI (q % 1000) = nI q := fun k => by
    rw [show q / 1000 = 0 by omega, show q % 1000 = q by omega]
    exact ⟨rfl, rfl⟩
  have a1 : ¬ q < 1000 → ¬ nI (q / 1000) = 0 := fun k => nI_ne (j := 0) (by omega) (by decide) (by omega)
  -- ticks
  show (if (s_X11_isTicks_r (nI q)) = 0 then (0 : Int32) else 1) = (if nI (q / 1000) = 0 then (if (s_X12_in_r (nI (q % 1000)).toInt64 1 200) = 0 then 0 else 1) else 0) ∧ RZ (N + 200) (s_X7_pass_z (nI q) z) (if nI (q / 1000) = 0 then (if (s_X12_in_r (nI (q % 1000)).toInt64 1 200) = 0 then f else (itF s_X12_tickOn_w0 (tn (nI (q % 1000))) f)) else f)
  by_cases k : q < 1000
  · obtain ⟨k1, k2⟩ := a0 k
    rw [if_pos k1, if_pos k1, k2]
    refine ⟨b01 tk_iff, ?_⟩
    by_cases d : s_X11_isTicks_r (nI q) = 0
    · rw [passZ_no d, if_pos (tk_iff.mp d)]
      exact hm
    · rw [if_neg (mt tk_iff.mpr d)]
      exact pass_rel h d hN
  · rw [if_neg (a1 k), if_neg (a1 k), if_pos (big_ticks (by omega) (by omega)), passZ_no (big_ticks (by omega) (by omega))]
    exact ⟨rfl, hm⟩
theorem cmd_2 (h : RZ N z f) (hq : q < 10000) (hN : N + 200 < 2147483648) : SR (nI 2) (nI q) z = s_X12_does_r (nI 2) (nI (q / 1000)) (nI (q % 1000)) f ∧ RZ (N + 200) (SZ (nI 2) (nI q) z) (s_X12_does_w1 (nI 2) (nI (q / 1000)) (nI (q % 1000)) f) := by
  have hm := h.mono (show N ≤ N + 200 by omega)
  have ha10 : q / 1000 < 10 := by omega
  have ht : q % 1000 < 1000 := Nat.mod_lt _ (by decide)
  have a0 : q < 1000 → nI (q / 1000) = 0 ∧ nI (q % 1000) = nI q := fun k => by
    rw [show q / 1000 = 0 by omega, show q % 1000 = q by omega]
    exact ⟨rfl, rfl⟩
  have a1 : ¬ q < 1000 → ¬ nI (q / 1000) = 0 := fun k => nI_ne (j := 0) (by omega) (by decide) (by omega)
  -- the mode
  show (if (s_X11_isMode_r (nI q)) = 0 then (0 : Int32) else 1) = (if nI (q / 1000) = 0 then (if (s_X12_isMode_r (nI (q % 1000))) = 0 then 0 else 1) else 0) ∧ RZ (N + 200) (s_X7_changeMode_z (nI q) z) (if nI (q / 1000) = 0 then (if (s_X12_isMode_r (nI (q % 1000))) = 0 then f else (s_X12_modeOn_w0 (nI (q % 1000)) f)) else f)
  by_cases k : q < 1000
  · obtain ⟨k1, k2⟩ := a0 k
    rw [if_pos k1, if_pos k1, k2]
    refine ⟨b01 md_iff, ?_⟩
    by_cases d : s_X11_isMode_r (nI q) = 0
    · rw [modeZ_no d, if_pos (md_iff.mp d)]
      exact hm
    · rw [if_neg (mt md_iff.mpr d)]
      exact mode_rel hm (isModeC_in d)
  · rw [if_neg (a1 k), if_neg (a1 k), if_pos (big_mode (by omega) (by omega)), modeZ_no (big_mode (by omega) (by omega))]
    exact ⟨rfl, hm⟩
theorem cmd_3 (h : RZ N z f) (hq : q < 10000) (hN : N + 200 < 2147483648) : SR (nI 3) (nI q) z = s_X12_does_r (nI 3) (nI (q / 1000)) (nI (q % 1000)) f ∧ RZ (N + 200) (SZ (nI 3) (nI q) z) (s_X12_does_w1 (nI 3) (nI (q / 1000)) (nI (q % 1000)) f) := by
  have hm := h.mono (show N ≤ N + 200 by omega)
  have ha10 : q / 1000 < 10 := by omega
  have ht : q % 1000 < 1000 := Nat.mod_lt _ (by decide)
  have a0 : q < 1000 → nI (q / 1000) = 0 ∧ nI (q % 1000) = nI q := fun k => by
    rw [show q / 1000 = 0 by omega, show q % 1000 = q by omega]
    exact ⟨rfl, rfl⟩
  have a1 : ¬ q < 1000 → ¬ nI (q / 1000) = 0 := fun k => nI_ne (j := 0) (by omega) (by decide) (by omega)
  -- a disturbance
  obtain ⟨g1, g2⟩ := sign_r hq
  obtain ⟨d1, d2⟩ := ds_abs ht
  show (if (s_X5_hasSign_r (nI q)) = 0 then (0 : Int32) else (if (if (s_X11_isDisturbance_r (s_X5_signed_r (nI q))) = 0 then (0 : Int32) else 1) = 0 then 0 else 1)) = (if 1 < nI (q / 1000) then 0 else (if nI (q % 1000) ≤ 500 then 1 else 0)) ∧ RZ (N + 200) (if (s_X5_hasSign_r (nI q)) = 0 then z else s_X7_push_z (s_X5_signed_r (nI q)) z) (if 1 < nI (q / 1000) then f else (if nI (q % 1000) ≤ 500 then s_X12_disturbOn_w0 (if nI (q / 1000) = 0 then nI (q % 1000) else (-(nI (q % 1000)))) f else f))
  rw [g1, g2, b00]
  by_cases k : 1 < nI (q / 1000)
  · rw [if_pos k, if_pos k, if_pos k, if_pos rfl, if_pos rfl]
    exact ⟨rfl, hm⟩
  · rw [if_neg k, if_neg k, if_neg k]
    have kq : q / 1000 ≤ 1 := by
      rcases Nat.lt_or_ge 1 (q / 1000) with w | w
      · exact absurd ((nI_ltI (a := 1) (b := q / 1000) (by decide) (by omega)).mpr w) k
      · exact w
    rw [if_neg (show ¬ (1 : Int32) = 0 by decide), if_neg (show ¬ (1 : Int32) = 0 by decide)]
    have e5 : nI (q % 1000) ≤ 500 ↔ q % 1000 ≤ 500 := nI_leI (b := 500) (by omega) (by decide)
    rcases (show q / 1000 = 0 ∨ q / 1000 = 1 by omega) with w | w
    · rw [w, if_neg (show ¬ nI 0 = 1 by decide), if_pos (show nI 0 = 0 from rfl)]
      by_cases v : q % 1000 ≤ 500
      · rw [if_pos (e5.mpr v), if_pos (e5.mpr v), if_neg (fun x => (d1.mp x) v)]
        exact ⟨rfl, push_rel hm (fun x => (d1.mp x) v)⟩
      · rw [if_neg (mt e5.mp v), if_neg (mt e5.mp v), if_pos (d1.mpr v), pushZ_no (d1.mpr v)]
        exact ⟨rfl, hm⟩
    · rw [w, if_pos (show nI 1 = 1 from rfl), if_neg (show ¬ nI 1 = 0 by decide)]
      by_cases v : q % 1000 ≤ 500
      · rw [if_pos (e5.mpr v), if_pos (e5.mpr v), if_neg (fun x => (d2.mp x) v)]
        exact ⟨rfl, push_rel hm (fun x => (d2.mp x) v)⟩
      · rw [if_neg (mt e5.mp v), if_neg (mt e5.mp v), if_pos (d2.mpr v), pushZ_no (d2.mpr v)]
        exact ⟨rfl, hm⟩
theorem cmd_4 (h : RZ N z f) (hq : q < 10000) (hN : N + 200 < 2147483648) : SR (nI 4) (nI q) z = s_X12_does_r (nI 4) (nI (q / 1000)) (nI (q % 1000)) f ∧ RZ (N + 200) (SZ (nI 4) (nI q) z) (s_X12_does_w1 (nI 4) (nI (q / 1000)) (nI (q % 1000)) f) := by
  have hm := h.mono (show N ≤ N + 200 by omega)
  have ha10 : q / 1000 < 10 := by omega
  have ht : q % 1000 < 1000 := Nat.mod_lt _ (by decide)
  have a0 : q < 1000 → nI (q / 1000) = 0 ∧ nI (q % 1000) = nI q := fun k => by
    rw [show q / 1000 = 0 by omega, show q % 1000 = q by omega]
    exact ⟨rfl, rfl⟩
  have a1 : ¬ q < 1000 → ¬ nI (q / 1000) = 0 := fun k => nI_ne (j := 0) (by omega) (by decide) (by omega)
  -- a setting
  obtain ⟨e1, e2⟩ := num_a hq
  show (if (s_X11_isSetting_r (nI q / 1000) (nI q - nI q / 1000 * 1000)) = 0 then (0 : Int32) else 1) = (if (s_X12_isSetting_r (nI (q / 1000)) (nI (q % 1000))) = 0 then 0 else 1) ∧ RZ (N + 200) (s_X7_put_z (nI q / 1000) (nI q - nI q / 1000 * 1000) z) (if (s_X12_isSetting_r (nI (q / 1000)) (nI (q % 1000))) = 0 then f else (upd f (tn (nI (q / 1000))) (nI (q % 1000))))
  rw [e2, e1]
  refine ⟨b01 st_iff, ?_⟩
  by_cases d : s_X11_isSetting_r (nI (q / 1000)) (nI (q % 1000)) = 0
  · rw [putZ_no d, if_pos (st_iff.mp d)]
    exact hm
  · rw [if_neg (mt st_iff.mpr d)]
    obtain ⟨k, k1, k2⟩ := set_place d
    exact put_rel hm k1 k2 d
theorem cmd_5 (h : RZ N z f) (hq : q < 10000) (hN : N + 200 < 2147483648) : SR (nI 5) (nI q) z = s_X12_does_r (nI 5) (nI (q / 1000)) (nI (q % 1000)) f ∧ RZ (N + 200) (SZ (nI 5) (nI q) z) (s_X12_does_w1 (nI 5) (nI (q / 1000)) (nI (q % 1000)) f) := by
  have hm := h.mono (show N ≤ N + 200 by omega)
  have ha10 : q / 1000 < 10 := by omega
  have ht : q % 1000 < 1000 := Nat.mod_lt _ (by decide)
  have a0 : q < 1000 → nI (q / 1000) = 0 ∧ nI (q % 1000) = nI q := fun k => by
    rw [show q / 1000 = 0 by omega, show q % 1000 = q by omega]
    exact ⟨rfl, rfl⟩
  have a1 : ¬ q < 1000 → ¬ nI (q / 1000) = 0 := fun k => nI_ne (j := 0) (by omega) (by decide) (by omega)
  -- a trial
  show (if (s_X11_isRule_r (nI q)) = 0 then (0 : Int32) else (if (s_X7_canBeginTrial_r z) = 0 then 0 else 1)) = (if nI (q / 1000) = 0 then (if (s_X12_isRule_r (nI (q % 1000))) = 0 then 0 else (if (s_X12_canTry_r f) = 0 then 0 else 1)) else 0) ∧ RZ (N + 200) (s_X7_beginTrial_z (nI q) z) (if nI (q / 1000) = 0 then (if (s_X12_isRule_r (nI (q % 1000))) = 0 then f else (if (s_X12_canTry_r f) = 0 then f else (s_X12_tryOn_w1 (nI (q % 1000)) f))) else f)
  by_cases k : q < 1000
  · obtain ⟨k1, k2⟩ := a0 k
    rw [if_pos k1, if_pos k1, k2, can_rel h]
    by_cases d : s_X11_isRule_r (nI q) = 0
    · rw [if_pos d, if_pos (ru_iff.mp d), if_pos (ru_iff.mp d), begin_no1 d]
      exact ⟨rfl, hm⟩
    · rw [if_neg d, if_neg (mt ru_iff.mpr d), if_neg (mt ru_iff.mpr d)]
      refine ⟨rfl, ?_⟩
      by_cases d2 : s_X12_canTry_r f = 0
      · rw [if_pos d2, begin_no2 (by rw [can_rel h]; exact d2)]
        exact hm
      · rw [if_neg d2]
        exact try_rel hm (rule_in d) d d2
  · rw [if_neg (a1 k), if_neg (a1 k), if_pos (big_rule (by omega) (by omega)), begin_no1 (big_rule (by omega) (by omega))]
    exact ⟨rfl, hm⟩
theorem cmd_6 (h : RZ N z f) (hq : q < 10000) (hN : N + 200 < 2147483648) : SR (nI 6) (nI q) z = s_X12_does_r (nI 6) (nI (q / 1000)) (nI (q % 1000)) f ∧ RZ (N + 200) (SZ (nI 6) (nI q) z) (s_X12_does_w1 (nI 6) (nI (q / 1000)) (nI (q % 1000)) f) := by
  have hm := h.mono (show N ≤ N + 200 by omega)
  have ha10 : q / 1000 < 10 := by omega
  have ht : q % 1000 < 1000 := Nat.mod_lt _ (by decide)
  have a0 : q < 1000 → nI (q / 1000) = 0 ∧ nI (q % 1000) = nI q := fun k => by
    rw [show q / 1000 = 0 by omega, show q % 1000 = q by omega]
    exact ⟨rfl, rfl⟩
  have a1 : ¬ q < 1000 → ¬ nI (q / 1000) = 0 := fun k => nI_ne (j := 0) (by omega) (by decide) (by omega)
  -- a trial taken back
  show (if nI q = 0 then (if (if ((z 9) 0) = 0 then (0 : Int32) else 1) = 0 then (0 : Int32) else 1) else 0) = (if nI (q / 1000) = 0 then (if nI (q % 1000) = 0 then (if (f 17) = 0 then 0 else 1) else 0) else 0) ∧ RZ (N + 200) (if nI q = 0 then s_X7_endTrial_z z else z) (if nI (q / 1000) = 0 then (if nI (q % 1000) = 0 then (if (f 17) = 0 then f else (s_X12_takeBackOn_w0 f)) else f) else f)
  rw [b00, h.2.2.2.1.1]
  rcases Nat.eq_zero_or_pos q with k | k
  · subst k
    show (if (f 17) = 0 then (0 : Int32) else 1) = (if (f 17) = 0 then 0 else 1) ∧ RZ (N + 200) (s_X7_endTrial_z z) (if (f 17) = 0 then f else (s_X12_takeBackOn_w0 f))
    refine ⟨rfl, ?_⟩
    by_cases d : f 17 = 0
    · rw [if_pos d, endZ_no (h.2.2.2.1.1.trans d)]
      exact hm
    · rw [if_neg d]
      exact (takeBack_rel hm d).1
  · have n0 : ¬ nI q = 0 := nI_ne (j := 0) (by omega) (by decide) (by omega)
    rw [if_neg n0, if_neg n0]
    by_cases k2 : q < 1000
    · obtain ⟨k3, k4⟩ := a0 k2
      rw [if_pos k3, if_pos k3, k4, if_neg n0, if_neg n0]
      exact ⟨rfl, hm⟩
    · rw [if_neg (a1 k2), if_neg (a1 k2)]
      exact ⟨rfl, hm⟩
theorem SR_7 {n : Int32} : SR (nI 7) n z = (if (s_X5_hasSign_r n) = 0 then (0 : Int32) else (if ((z 1) 5) < (s_X5_signed_r n) then 0 else 1)) := by
  unfold SR
  rw [if_neg (show ¬ nI 7 = 1 by decide), if_neg (show ¬ nI 7 = 2 by decide), if_neg (show ¬ nI 7 = 3 by decide), if_neg (show ¬ nI 7 = 4 by decide), if_neg (show ¬ nI 7 = 5 by decide), if_neg (show ¬ nI 7 = 6 by decide), if_pos (show nI 7 = 7 from rfl)]
theorem SZ_7 {n : Int32} : SZ (nI 7) n z = z := by
  unfold SZ
  rw [if_neg (show ¬ nI 7 = 1 by decide), if_neg (show ¬ nI 7 = 2 by decide), if_neg (show ¬ nI 7 = 3 by decide), if_neg (show ¬ nI 7 = 4 by decide), if_neg (show ¬ nI 7 = 5 by decide), if_neg (show ¬ nI 7 = 6 by decide)]
theorem dr_7 {a b : Int32} : s_X12_does_r (nI 7) a b f = (if 2 ≤ a then 0 else (if (f 12) < (if a = 0 then b else (-b)) then 0 else 1)) := by
  unfold s_X12_does_r
  rw [if_neg (show ¬ nI 7 = 1 by decide), if_neg (show ¬ nI 7 = 2 by decide), if_neg (show ¬ nI 7 = 3 by decide), if_neg (show ¬ nI 7 = 4 by decide), if_neg (show ¬ nI 7 = 5 by decide), if_neg (show ¬ nI 7 = 6 by decide), if_pos (show nI 7 = 7 from rfl)]
theorem dw_7 {a b : Int32} : s_X12_does_w1 (nI 7) a b f = f := by
  unfold s_X12_does_w1
  rw [if_neg (show ¬ nI 7 = 1 by decide), if_neg (show ¬ nI 7 = 2 by decide), if_neg (show ¬ nI 7 = 3 by decide), if_neg (show ¬ nI 7 = 4 by decide), if_neg (show ¬ nI 7 = 5 by decide), if_neg (show ¬ nI 7 = 6 by decide), if_pos (show nI 7 = 7 from rfl)]
theorem cmd_7 (h : RZ N z f) (hq : q < 10000) (hN : N + 200 < 2147483648) : SR (nI 7) (nI q) z = s_X12_does_r (nI 7) (nI (q / 1000)) (nI (q % 1000)) f ∧ RZ (N + 200) (SZ (nI 7) (nI q) z) (s_X12_does_w1 (nI 7) (nI (q / 1000)) (nI (q % 1000)) f) := by
  have hm := h.mono (show N ≤ N + 200 by omega)
  have ha10 : q / 1000 < 10 := by omega
  have ht : q % 1000 < 1000 := Nat.mod_lt _ (by decide)
  have a0 : q < 1000 → nI (q / 1000) = 0 ∧ nI (q % 1000) = nI q := fun k => by
    rw [show q / 1000 = 0 by omega, show q % 1000 = q by omega]
    exact ⟨rfl, rfl⟩
  have a1 : ¬ q < 1000 → ¬ nI (q / 1000) = 0 := fun k => nI_ne (j := 0) (by omega) (by decide) (by omega)
  -- how warm
  obtain ⟨g1, g2⟩ := sign_r hq
  rw [SR_7, SZ_7, dr_7, dw_7]
  refine ⟨?_, hm⟩
  rw [g1, g2, h.1.2.2.1]
  rcases (show q / 1000 = 0 ∨ q / 1000 = 1 ∨ 2 ≤ q / 1000 by omega) with w | w | w
  · rw [w, if_neg (show ¬ (1 : Int32) < nI 0 by decide), if_neg (show ¬ (2 : Int32) ≤ nI 0 by decide), if_neg (show ¬ (1 : Int32) = 0 by decide), if_neg (show ¬ nI 0 = 1 by decide), if_pos (show nI 0 = 0 from rfl)]
  · rw [w, if_neg (show ¬ (1 : Int32) < nI 1 by decide), if_neg (show ¬ (2 : Int32) ≤ nI 1 by decide), if_neg (show ¬ (1 : Int32) = 0 by decide), if_pos (show nI 1 = 1 from rfl), if_neg (show ¬ nI 1 = 0 by decide)]
  · rw [if_pos (show (1 : Int32) < nI (q / 1000) from (nI_ltI (a := 1) (b := q / 1000) (by decide) (by omega)).mpr (by omega)), if_pos (show (2 : Int32) ≤ nI (q / 1000) from nI_le (a := 2) w (by omega)), if_pos rfl]
theorem cmd_8 (h : RZ N z f) (hq : q < 10000) (hN : N + 200 < 2147483648) : SR (nI 8) (nI q) z = s_X12_does_r (nI 8) (nI (q / 1000)) (nI (q % 1000)) f ∧ RZ (N + 200) (SZ (nI 8) (nI q) z) (s_X12_does_w1 (nI 8) (nI (q / 1000)) (nI (q % 1000)) f) := by
  have hm := h.mono (show N ≤ N + 200 by omega)
  have ha10 : q / 1000 < 10 := by omega
  have ht : q % 1000 < 1000 := Nat.mod_lt _ (by decide)
  have a0 : q < 1000 → nI (q / 1000) = 0 ∧ nI (q % 1000) = nI q := fun k => by
    rw [show q / 1000 = 0 by omega, show q % 1000 = q by omega]
    exact ⟨rfl, rfl⟩
  have a1 : ¬ q < 1000 → ¬ nI (q / 1000) = 0 := fun k => nI_ne (j := 0) (by omega) (by decide) (by omega)
  -- how many good swings
  show (if 99 < nI q then (0 : Int32) else (if (s_X7_goodCount_r z) < nI q then 0 else 1)) = (if nI (q / 1000) = 0 then (if 100 ≤ nI (q % 1000) then 0 else (if (nI (goodP f)) < nI (q % 1000) then 0 else 1)) else 0) ∧ RZ (N + 200) z f
  refine ⟨?_, hm⟩
  rw [good_rel h]
  by_cases k : q < 1000
  · obtain ⟨k1, k2⟩ := a0 k
    rw [if_pos k1, k2]
    by_cases d : 99 < q
    · rw [if_pos (show (99 : Int32) < nI q from (nI_ltI (a := 99) (by decide) (by omega)).mpr d), if_pos (show (100 : Int32) ≤ nI q from nI_le (a := 100) d (by omega))]
    · rw [if_neg (fun x : (99 : Int32) < nI q => d ((nI_ltI (a := 99) (by decide) (by omega)).mp x)), if_neg (fun x : (100 : Int32) ≤ nI q => d ((nI_leI (a := 100) (by decide) (by omega)).mp x))]
  · rw [if_neg (a1 k), if_pos (show (99 : Int32) < nI q from (nI_ltI (a := 99) (by decide) (by omega)).mpr (by omega))]
theorem cmd_9 (h : RZ N z f) (hq : q < 10000) (hN : N + 200 < 2147483648) : SR (nI 9) (nI q) z = s_X12_does_r (nI 9) (nI (q / 1000)) (nI (q % 1000)) f ∧ RZ (N + 200) (SZ (nI 9) (nI q) z) (s_X12_does_w1 (nI 9) (nI (q / 1000)) (nI (q % 1000)) f) := by
  have hm := h.mono (show N ≤ N + 200 by omega)
  have ha10 : q / 1000 < 10 := by omega
  have ht : q % 1000 < 1000 := Nat.mod_lt _ (by decide)
  have a0 : q < 1000 → nI (q / 1000) = 0 ∧ nI (q % 1000) = nI q := fun k => by
    rw [show q / 1000 = 0 by omega, show q % 1000 = q by omega]
    exact ⟨rfl, rfl⟩
  have a1 : ¬ q < 1000 → ¬ nI (q / 1000) = 0 := fun k => nI_ne (j := 0) (by omega) (by decide) (by omega)
  -- how many trials
  show (if 9 < nI q then (0 : Int32) else (if ((z 9) 0) = nI q then 1 else 0)) = (if nI (q / 1000) = 0 then (if 10 ≤ nI (q % 1000) then 0 else (if (f 17) = nI (q % 1000) then 1 else 0)) else 0) ∧ RZ (N + 200) z f
  refine ⟨?_, hm⟩
  rw [h.2.2.2.1.1]
  by_cases k : q < 1000
  · obtain ⟨k1, k2⟩ := a0 k
    rw [if_pos k1, k2]
    by_cases d : 9 < q
    · rw [if_pos (show (9 : Int32) < nI q from (nI_ltI (a := 9) (by decide) (by omega)).mpr d), if_pos (show (10 : Int32) ≤ nI q from nI_le (a := 10) d (by omega))]
    · rw [if_neg (fun x : (9 : Int32) < nI q => d ((nI_ltI (a := 9) (by decide) (by omega)).mp x)), if_neg (fun x : (10 : Int32) ≤ nI q => d ((nI_leI (a := 10) (by decide) (by omega)).mp x))]
  · rw [if_neg (a1 k), if_pos (show (9 : Int32) < nI q from (nI_ltI (a := 9) (by decide) (by omega)).mpr (by omega))]
theorem cmd_rel (h : RZ N z f) (hc : c < 10) (hq : q < 10000) (hN : N + 200 < 2147483648) : SR (nI c) (nI q) z = s_X12_does_r (nI c) (nI (q / 1000)) (nI (q % 1000)) f ∧ RZ (N + 200) (SZ (nI c) (nI q) z) (s_X12_does_w1 (nI c) (nI (q / 1000)) (nI (q % 1000)) f) := by
  rcases (show c = 0 ∨ c = 1 ∨ c = 2 ∨ c = 3 ∨ c = 4 ∨ c = 5 ∨ c = 6 ∨ c = 7 ∨ c = 8 ∨ c = 9 by omega) with rfl | rfl | rfl | rfl | rfl | rfl | rfl | rfl | rfl | rfl
  · exact cmd_0 h hq hN
  · exact cmd_1 h hq hN
  · exact cmd_2 h hq hN
  · exact cmd_3 h hq hN
  · exact cmd_4 h hq hN
  · exact cmd_5 h hq hN
  · exact cmd_6 h hq hN
  · exact cmd_7 h hq hN
  · exact cmd_8 h hq hN
  · exact cmd_9 h hq hN
theorem does_rel (h : RZ N z f) (hg : g < 100000) (hN : N + 200 < 2147483648) : s_X5_succeeds_r (nI g) z = s_X12_does_r (nI (g / 10000)) (nI (g / 1000 % 10)) (nI (g % 1000)) f ∧ RZ (N + 200) (s_X5_succeeds_z (nI g) z) (s_X12_does_w1 (nI (g / 10000)) (nI (g / 1000 % 10)) (nI (g % 1000)) f) := by
  obtain ⟨e1, e2⟩ := grp_c hg
  rw [SR_eq, SZ_eq, e2, e1, show g / 1000 % 10 = g % 10000 / 1000 by omega, show g % 1000 = g % 10000 % 1000 by omega]
  exact cmd_rel h (by omega) (Nat.mod_lt _ (by decide)) hN
theorem bh_eq {M : Nat} (hM : M < 2 ^ 63) : ∀ r, bhS (lN M) r = lN (M / 100000 ^ r)
  | 0 => by
    show lN M = lN (M / 1)
    rw [Nat.div_one]
  | r + 1 => by
    show bhS (lN M) r / 100000 = _
    rw [bh_eq hM r]
    have e : lN (M / 100000 ^ r) / lN 100000 = lN (M / 100000 ^ r / 100000) := pk_lDiv (Nat.lt_of_le_of_lt (Nat.div_le_self _ _) hM) (by decide) (by decide)
    rw [Nat.div_div_eq_div_mul, ← Nat.pow_succ] at e
    exact e
theorem bh_grp {M r : Nat} (hM : M < 2 ^ 63) : (bhS (lN M) r - bhS (lN M) r / 100000 * 100000).toInt32 = nI (M / 100000 ^ r % 100000) := by
  rw [bh_eq hM]
  have e : lN (M / 100000 ^ r) - lN (M / 100000 ^ r) / lN 100000 * lN 100000 = lN (M / 100000 ^ r % 100000) := pk_lRem (Nat.lt_of_le_of_lt (Nat.div_le_self _ _) hM) (by decide) (by decide)
  exact (congrArg Int64.toInt32 e).trans (lN_i _)
theorem cr_rel {M n : Nat} (hM : M < 2 ^ 63) : ∀ (r k : Nat) (z : Nat → Nat → Int32) (f : Nat → Int32) (N : Nat), RZ N z f → N + 200 * r < 2147483648 → crF (lN M) n r k z = scS r (M % 100000 ^ r) k f
  | 0, _, _, _, _, _, _ => rfl
  | r + 1, k, z, f, N, h, hN => by
    have hg : M / 100000 ^ r % 100000 < 100000 := Nat.mod_lt _ (by decide)
    obtain ⟨e1, e2⟩ := does_rel h hg (by omega)
    have eg : M % 100000 ^ (r + 1) / 100000 ^ r = M / 100000 ^ r % 100000 := by
      rw [Nat.pow_succ, Nat.mod_mul_right_div_self]
    have el : M % 100000 ^ (r + 1) % 100000 ^ r = M % 100000 ^ r := by
      rw [Nat.pow_succ]
      exact Nat.mod_mod_of_dvd _ (Nat.dvd_mul_right _ _)
    rw [crF, scS, bh_grp hM, eg, el, e1, cr_rel hM r (k + 1) _ _ (N + 200) e2 (by omega)]
end DOES2

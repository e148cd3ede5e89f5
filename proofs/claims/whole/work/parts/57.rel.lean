section RANGE
variable {a b l u : Int32}
theorem rgL : (if a < l then (0 : Int32) else (if u < a then 0 else 1)) = 0 ↔ ¬ (l.toInt ≤ a.toInt ∧ a.toInt ≤ u.toInt) := by
  by_cases h1 : a < l
  · rw [if_pos h1]
    have := Int32.lt_iff_toInt_lt.mp h1
    exact ⟨fun _ => by omega, fun _ => rfl⟩
  · rw [if_neg h1]
    have h1' := mt Int32.lt_iff_toInt_lt.mpr h1
    by_cases h2 : u < a
    · rw [if_pos h2]
      have := Int32.lt_iff_toInt_lt.mp h2
      exact ⟨fun _ => by omega, fun _ => rfl⟩
    · rw [if_neg h2]
      have h2' := mt Int32.lt_iff_toInt_lt.mpr h2
      exact ⟨fun h => absurd h (by decide), fun h => absurd (And.intro (by omega) (by omega)) h⟩
theorem rgS : (if a < l then (0 : Int32) else (if u ≤ a then 0 else 1)) = 0 ↔ ¬ (l.toInt ≤ a.toInt ∧ a.toInt < u.toInt) := by
  by_cases h1 : a < l
  · rw [if_pos h1]
    have := Int32.lt_iff_toInt_lt.mp h1
    exact ⟨fun _ => by omega, fun _ => rfl⟩
  · rw [if_neg h1]
    have h1' := mt Int32.lt_iff_toInt_lt.mpr h1
    by_cases h2 : u ≤ a
    · rw [if_pos h2]
      have := Int32.le_iff_toInt_le.mp h2
      exact ⟨fun _ => by omega, fun _ => rfl⟩
    · rw [if_neg h2]
      have h2' := mt Int32.le_iff_toInt_le.mpr h2
      exact ⟨fun h => absurd h (by decide), fun h => absurd (And.intro (by omega) (by omega)) h⟩
theorem tk_iff : s_X11_isTicks_r a = 0 ↔ s_X12_in_r a.toInt64 1 200 = 0 := by
  rw [in_no, i64_of]
  exact rgL
theorem md_iff : s_X11_isMode_r a = 0 ↔ s_X12_isMode_r a = 0 := by
  unfold s_X12_isMode_r
  rw [in_no, i64_of]
  exact rgL
theorem ds_iff : s_X11_isDisturbance_r a = 0 ↔ s_X12_in_r a.toInt64 (-500) 500 = 0 := by
  rw [in_no, i64_of]
  exact rgL
theorem fc_iff : s_X11_isForecast_r a = 0 ↔ s_X12_in_r a.toInt64 0 4 = 0 := by
  rw [in_no, i64_of]
  exact rgL
theorem rgS1 {n : Int} (h : u.toInt = n + 1) : (if a < l then (0 : Int32) else (if u ≤ a then 0 else 1)) = 0 ↔ ¬ (l.toInt ≤ a.toInt ∧ a.toInt ≤ n) := by
  rw [rgS]
  constructor
  · intro q1 q2
    exact q1 ⟨q2.1, by omega⟩
  · intro q1 q2
    exact q1 ⟨q2.1, by omega⟩
theorem ru_iff : s_X11_isRule_r a = 0 ↔ s_X12_isRule_r a = 0 := by
  unfold s_X12_isRule_r
  rw [in_no, i64_of]
  exact rgS1 (l := 0) (u := 4) (n := 3) rfl
theorem sl_iff : s_X11_isSlot_r a = 0 ↔ s_X12_in_r a.toInt64 0 1 = 0 := by
  rw [in_no, i64_of]
  exact rgS1 (l := 0) (u := 2) (n := 1) rfl
theorem rule_in (h : ¬ s_X11_isRule_r a = 0) : vp_in a 4 := by
  have h2 := mt ru_iff.mpr h
  unfold s_X12_isRule_r at h2
  exact in_vp h2 (by decide) (by decide)
theorem ne_int {k : Int32} (h : ¬ a = k) : ¬ a.toInt = k.toInt := fun q => h (Int32.toInt_inj.mp q)
theorem set_eq {m : Int32} (hm : s_X1_most_r a = m) (h : 5 ≤ a.toInt ∧ a.toInt ≤ 10) : s_X11_isSetting_r a b = 0 ↔ ¬ (0 ≤ b.toInt ∧ b.toInt ≤ m.toInt) := by
  have h1 : ¬ a < 5 := fun q => by
    have q2 := Int32.lt_iff_toInt_lt.mp q
    rw [show (5 : Int32).toInt = 5 from rfl] at q2
    omega
  have h2 : ¬ 10 < a := fun q => by
    have q2 := Int32.lt_iff_toInt_lt.mp q
    rw [show (10 : Int32).toInt = 10 from rfl] at q2
    omega
  unfold s_X11_isSetting_r
  simp only [if_neg h1, if_neg h2, hm]
  exact rgL
theorem st_iff : s_X11_isSetting_r a b = 0 ↔ s_X12_isSetting_r a b = 0 := by
  by_cases k5 : a = 5
  · subst k5
    rw [set_eq (m := 999) rfl (by decide)]
    unfold s_X12_isSetting_r
    rw [if_pos rfl]
    show _ ↔ s_X12_in_r b.toInt64 0 999 = 0
    rw [in_no, i64_of]
    exact Iff.rfl
  · by_cases k6 : a = 6
    · subst k6
      rw [set_eq (m := 20) rfl (by decide)]
      show _ ↔ s_X12_in_r b.toInt64 0 20 = 0
      rw [in_no, i64_of]
      exact Iff.rfl
    · by_cases k7 : a = 7
      · subst k7
        rw [set_eq (m := 99) rfl (by decide)]
        show _ ↔ s_X12_in_r b.toInt64 0 99 = 0
        rw [in_no, i64_of]
        exact Iff.rfl
      · have g5 := ne_int k5
        have g6 := ne_int k6
        have g7 := ne_int k7
        rw [show (5 : Int32).toInt = 5 from rfl] at g5
        rw [show (6 : Int32).toInt = 6 from rfl] at g6
        rw [show (7 : Int32).toInt = 7 from rfl] at g7
        have hm : s_X1_most_r a = 9999 := by
          unfold s_X1_most_r
          rw [if_neg k5, if_neg k6, if_neg k7]
        have e2 : s_X12_isSetting_r a b = (if (s_X12_in_r a.toInt64 8 10) = 0 then 0 else (if (s_X12_in_r b.toInt64 0 9999) = 0 then 0 else 1)) := by
          unfold s_X12_isSetting_r
          simp only [if_neg k5, if_neg k6, if_neg k7]
        rw [e2]
        by_cases c : s_X12_in_r a.toInt64 8 10 = 0
        · rw [if_pos c]
          have c2 := in_no.mp c
          rw [i64_of] at c2
          have c3 : ¬ (8 ≤ a.toInt ∧ a.toInt ≤ 10) := c2
          refine ⟨fun _ => rfl, fun _ => ?_⟩
          unfold s_X11_isSetting_r
          try dsimp only
          by_cases d : a < 5
          · rw [if_pos d]
          · rw [if_neg d]
            have d2 := mt Int32.lt_iff_toInt_lt.mpr d
            rw [show (5 : Int32).toInt = 5 from rfl] at d2
            refine if_pos (Int32.lt_iff_toInt_lt.mpr ?_)
            show (10 : Int) < a.toInt
            omega
        · rw [if_neg c]
          have c2 : 8 ≤ a.toInt ∧ a.toInt ≤ 10 := by
            have c3 := mt in_no.mpr c
            rw [i64_of] at c3
            exact Decidable.not_not.mp c3
          rw [set_eq (m := 9999) hm (by omega)]
          have e3 : s_X12_in_r b.toInt64 0 9999 = 0 ↔ ¬ (0 ≤ b.toInt ∧ b.toInt ≤ 9999) := by
            rw [in_no, i64_of]
            exact Iff.rfl
          by_cases d : s_X12_in_r b.toInt64 0 9999 = 0
          · rw [if_pos d]
            exact ⟨fun _ => rfl, fun _ => e3.mp d⟩
          · rw [if_neg d]
            exact ⟨fun q => absurd (e3.mpr q) d, fun q => absurd q (by decide)⟩
theorem set_place (h : ¬ s_X11_isSetting_r a b = 0) : ∃ k : Nat, a = nI k ∧ 5 ≤ k ∧ k < 11 := by
  have h0 : ¬ a < 5 := fun q => h (by unfold s_X11_isSetting_r; exact if_pos q)
  have h1 : ¬ 10 < a := fun q => h (by
    unfold s_X11_isSetting_r
    try dsimp only
    rw [if_neg h0, if_pos q])
  obtain ⟨k, hk, e⟩ := vp_in_of (vin6 (x := a) (B := 10) (n := 10) (fun q => h0 (Int32.lt_trans q (by decide))) (Int32.not_lt.mp h1) rfl (by decide)) (by decide)
  refine ⟨k, e, ?_, hk⟩
  rcases Nat.lt_or_ge k 5 with q | q
  · exact absurd (by rw [e]; exact (nI_ltI (a := k) (b := 5) (by omega) (by decide)).mpr q) h0
  · exact q
end RANGE
section DOES
variable {z : Nat → Nat → Int32} {f : Nat → Int32} {N c a t g : Nat}
theorem nI_ne {i j : Nat} (hi : i < 2 ^ 31) (hj : j < 2 ^ 31) (h : i ≠ j) : ¬ nI i = nI j := fun q => by
  have h8 := congrArg Int32.toNatClampNeg q
  rw [nI_clamp hi, nI_clamp hj] at h8
  exact h h8
theorem big_ticks (h : 1000 ≤ g) (hg : g < 100000) : s_X11_isTicks_r (nI g) = 0 := by
  unfold s_X11_isTicks_r
  try dsimp only
  by_cases q : nI g < 1
  · rw [if_pos q]
  · rw [if_neg q]
    exact if_pos ((nI_ltI (a := 200) (b := g) (by decide) (by omega)).mpr (by omega))
theorem big_mode (h : 1000 ≤ g) (hg : g < 100000) : s_X11_isMode_r (nI g) = 0 := by
  unfold s_X11_isMode_r
  try dsimp only
  by_cases q : nI g < 0
  · rw [if_pos q]
  · rw [if_neg q]
    exact if_pos ((nI_ltI (a := 2) (b := g) (by decide) (by omega)).mpr (by omega))
theorem big_rule (h : 1000 ≤ g) (hg : g < 100000) : s_X11_isRule_r (nI g) = 0 := by
  unfold s_X11_isRule_r
  try dsimp only
  by_cases q : nI g < 0
  · rw [if_pos q]
  · rw [if_neg q]
    exact if_pos (nI_le (a := 4) (b := g) (by omega) (by omega))
theorem modeZ_no {x : Int32} (h : s_X11_isMode_r x = 0) : s_X7_changeMode_z x z = z := by
  funext i
  unfold s_X7_changeMode_z
  split
  · exact if_pos h
  · exact if_pos h
  · rfl
theorem passZ_no {x : Int32} (h : s_X11_isTicks_r x = 0) : s_X7_pass_z x z = z := by
  funext i
  unfold s_X7_pass_z
  split <;> first | exact if_pos h | rfl
theorem passZ_yes {x : Int32} (h : ¬ s_X11_isTicks_r x = 0) : ∀ i, i < 13 → s_X7_pass_z x z i = itF s_X7_passOne_z (tn x) z i := by
  intro i hi
  rcases (show i = 0 ∨ i = 1 ∨ i = 2 ∨ i = 3 ∨ i = 4 ∨ i = 5 ∨ i = 6 ∨ i = 7 ∨ i = 8 ∨ i = 9 ∨ i = 10 ∨ i = 11 ∨ i = 12 by omega) with rfl | rfl | rfl | rfl | rfl | rfl | rfl | rfl | rfl | rfl | rfl | rfl | rfl <;> exact if_neg h
theorem RZ.zcong {z' : Nat → Nat → Int32} (h : RZ N z f) (e : ∀ i, i < 13 → z' i = z i) : RZ N z' f := by
  obtain ⟨hP, hC, hW, hT, hA, hI⟩ := h
  exact ⟨hP.cong (by rw [e 0 (by decide)]) (e 1 (by decide)) (e 2 (by decide)) (fun _ _ => rfl), hC.cong (e 3 (by decide)) (fun _ _ => rfl), hW.cong hI.2.1.2.1 (by rw [e 0 (by decide)]) (e 4 (by decide)) (e 5 (by decide)) (e 6 (by decide)) (e 7 (by decide)) (e 8 (by decide)) (fun _ _ => rfl), hT.cong (e 9 (by decide)) (e 10 (by decide)) (fun _ _ => rfl), hA.cong (e 11 (by decide)) (e 12 (by decide)) (fun _ _ => rfl), hI⟩
theorem pass_rel {x : Int32} (h : RZ N z f) (c : ¬ s_X11_isTicks_r x = 0) (hN : N + 200 < 2147483648) : RZ (N + 200) (s_X7_pass_z x z) (itF s_X12_tickOn_w0 (tn x) f) := by
  have hin := (in_tn (ticks_in c) (by decide)).2
  exact ((ticks_rel h (tn x) (by omega)).mono (by omega)).zcong (passZ_yes c)
theorem putZ_no {x y : Int32} (h : s_X11_isSetting_r x y = 0) : s_X7_put_z x y z = z := by
  funext i
  unfold s_X7_put_z
  split
  · exact if_pos h
  · rfl
theorem pushZ_no {x : Int32} (h : s_X11_isDisturbance_r x = 0) : s_X7_push_z x z = z := by
  funext i
  unfold s_X7_push_z
  split <;> first | exact if_pos h | rfl
theorem endZ_no (h : ((z 9) 0) = 0) : s_X7_endTrial_z z = z := by
  funext i
  unfold s_X7_endTrial_z
  split <;> first | exact if_pos h | rfl
/-- a number of a script's command, in its parts -/
theorem grp_c (hg : g < 100000) : nI g / 10000 = nI (g / 10000) ∧ nI g - nI g / 10000 * 10000 = nI (g % 10000) := ⟨pk_div (d := 10000) (by omega) (by decide) (by decide), pk_rem (d := 10000) (by omega) (by decide) (by decide)⟩
theorem num_a (hg : g < 10000) : nI g / 1000 = nI (g / 1000) ∧ nI g - nI g / 1000 * 1000 = nI (g % 1000) := ⟨pk_div (d := 1000) (by omega) (by decide) (by decide), pk_rem (d := 1000) (by omega) (by decide) (by decide)⟩
theorem ds_abs (ht : t < 1000) : (s_X11_isDisturbance_r (nI t) = 0 ↔ ¬ t ≤ 500) ∧ (s_X11_isDisturbance_r (-(nI t)) = 0 ↔ ¬ t ≤ 500) := by
  have e1 : (nI t).toInt = (t : Int) := nI_toInt (by omega)
  have e2 : (-(nI t)).toInt = -(t : Int) := by
    rw [Int32.toInt_neg, e1]
    exact bmod32 (by omega) (by omega)
  constructor
  · rw [show s_X11_isDisturbance_r (nI t) = (if nI t < (-500) then (0 : Int32) else (if 500 < nI t then 0 else 1)) from rfl, rgL, e1, show (-500 : Int32).toInt = -500 from rfl, show (500 : Int32).toInt = 500 from rfl]
    omega
  · rw [show s_X11_isDisturbance_r (-(nI t)) = (if -(nI t) < (-500) then (0 : Int32) else (if 500 < -(nI t) then 0 else 1)) from rfl, rgL, e2, show (-500 : Int32).toInt = -500 from rfl, show (500 : Int32).toInt = 500 from rfl]
    omega
end DOES

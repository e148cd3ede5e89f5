/-! ===== ticks held against the ones before, and against forecasts ===== -/
section TCK
variable {z : Zs} {B : Int}
theorem zs_ext {z z' : Zs} (h : ∀ i, i < 13 → z i = z' i) (h2 : ∀ i, z (i + 13) = z' (i + 13)) : z = z' := by
  funext i
  by_cases c : i < 13
  · exact h i c
  · obtain ⟨j, rfl⟩ : ∃ j, i = j + 13 := ⟨i - 13, by omega⟩
    exact h2 j
theorem c13 {P : Nat → Prop} (h0 : P 0) (h1 : P 1) (h2 : P 2) (h3 : P 3) (h4 : P 4) (h5 : P 5) (h6 : P 6) (h7 : P 7) (h8 : P 8) (h9 : P 9) (h10 : P 10) (h11 : P 11) (h12 : P 12) : ∀ i, i < 13 → P i := by
  intro i hi
  rcases (show i = 0 ∨ i = 1 ∨ i = 2 ∨ i = 3 ∨ i = 4 ∨ i = 5 ∨ i = 6 ∨ i = 7 ∨ i = 8 ∨ i = 9 ∨ i = 10 ∨ i = 11 ∨ i = 12 by omega) with rfl | rfl | rfl | rfl | rfl | rfl | rfl | rfl | rfl | rfl | rfl | rfl | rfl <;> assumption
theorem it_hi (i : Nat) : ∀ k, itF s_X7_passOne_z k z (i + 13) = z (i + 13)
  | 0 => rfl
  | k + 1 => (show s_X7_passOne_z (itF s_X7_passOne_z k z) (i + 13) = itF s_X7_passOne_z k z (i + 13) from rfl).trans (it_hi i k)
theorem pass_eq {a : Int32} (ha : ¬ s_X11_isTicks_r a = 0) : s_X7_pass_z a z = itF s_X7_passOne_z (tn a) z := by
  refine zs_ext (c13 ?_ ?_ ?_ ?_ ?_ ?_ ?_ ?_ ?_ ?_ ?_ ?_ ?_) (fun i => (it_hi (z := z) i (tn a)).symm) <;> exact if_neg ha
theorem tick_eq {a : Int32} : s_X11_tick_z a z = s_X7_pass_z a z := zs_ext (c13 rfl rfl rfl rfl rfl rfl rfl rfl rfl rfl rfl rfl rfl) (fun _ => rfl)
theorem tick_it {a : Int32} (ha : ¬ s_X11_isTicks_r a = 0) : s_X11_tick_z a z = itF s_X7_passOne_z (tn a) z := tick_eq.trans (pass_eq ha)
theorem tz_s (t : Nat) : s_X11_tick_z 1 (tzF z t) = tzF z (t + 1) := tick_it (by decide)
theorem ticks_ok {k : Nat} (h1 : 1 ≤ k) (h2 : k ≤ 200) : s_X11_isTicks_r (nI k) = 1 := by
  unfold s_X11_isTicks_r
  (try dsimp only)
  have q1 : ¬ nI k < 1 := fun q => absurd ((nI_ltI (a := k) (b := 1) (by omega) (by decide)).mp q) (by omega)
  rw [if_neg q1, if_neg (k_lt (D := 200) (d := 200) (j := k) (by omega) (by omega) h2 rfl)]
theorem tick_k {k : Nat} (h1 : 1 ≤ k) (h2 : k ≤ 200) : s_X11_tick_k (nI k) = 0 := by
  unfold s_X11_tick_k
  rw [ticks_ok h1 h2]
  rfl
theorem tick_n {k : Nat} (h1 : 1 ≤ k) (h2 : k ≤ 200) : s_X11_tick_z (nI k) z = tzF z k := by
  rw [tick_it (by rw [ticks_ok h1 h2]; decide), show tn (nI k) = k from nI_clamp (by omega)]
  rfl
theorem ahead_k {k : Nat} (h : k ≤ 200) {a : Int32} (ha : s_X11_isForecast_r a = 1) : s_X11_ahead_k (nI k) a = 0 := by
  unfold s_X11_ahead_k
  rw [if_neg (k_lt0 (j := k) (by omega)), if_neg (k_lt (D := 200) (d := 200) (j := k) (by omega) (by omega) h rfl), ha]
  rfl
theorem ahead_v {k : Nat} (h : k ≤ 200) : qAhead (nI k) 0 z = tzF z k 1 5 ∧ qAhead (nI k) 1 z = (fcF z k).1 ∧ qAhead (nI k) 2 z = (fcF z k).2.1 ∧ qAhead (nI k) 3 z = tzF z k 4 0 ∧ qAhead (nI k) 4 z = (fcF z k).2.2 := by
  have e : tn (nI k) = k := nI_clamp (by omega)
  refine ⟨?_, ?_, ?_, ?_, ?_⟩
  · refine (an_k0 (ahead_k h (by decide))).trans ?_
    unfold s_X11_ahead_r s_X11_forecast_r
    rw [e]; rfl
  · refine (an_k0 (ahead_k h (by decide))).trans ?_
    unfold s_X11_ahead_r s_X11_forecast_r
    rw [e]; rfl
  · refine (an_k0 (ahead_k h (by decide))).trans ?_
    unfold s_X11_ahead_r s_X11_forecast_r
    rw [e]; rfl
  · refine (an_k0 (ahead_k h (by decide))).trans ?_
    unfold s_X11_ahead_r s_X11_forecast_r
    rw [e]; rfl
  · refine (an_k0 (ahead_k h (by decide))).trans ?_
    unfold s_X11_ahead_r s_X11_forecast_r
    rw [e]; rfl
theorem qt_v {t : Nat} : qTick 1 (tzF z t) = tzF z (t + 1) 1 5 := by
  refine (an_k0 (by decide)).trans ?_
  unfold s_X11_tick_r
  rw [pass_eq (by decide)]
  rfl
theorem set_it : ∀ k : Nat, tzF z k 3 0 = z 3 0
  | 0 => rfl
  | k + 1 => (po_set (z := tzF z k)).trans (set_it k)
theorem tk_v : ∀ k : Nat, tkO z k = (fcF z k).1 ∧ tkM z k = (fcF z k).2.1 ∧ tkA z k = (fcF z k).2.2
  | 0 => ⟨rfl, rfl, rfl⟩
  | k + 1 => by
    obtain ⟨h1, h2, h3⟩ := tk_v k
    refine ⟨?_, ?_, ?_⟩
    · show tkO z k + tzF z (k + 1) 11 1 = (fcF z k).1 + itF s_X7_passOne_z (k + 1) z 11 1
      rw [h1]; rfl
    · show (if qTick 1 (tzF z k) ≤ tkM z k then tkM z k else qTick 1 (tzF z k)) = (if (fcF z k).2.1 < itF s_X7_passOne_z (k + 1) z 1 5 then itF s_X7_passOne_z (k + 1) z 1 5 else (fcF z k).2.1)
      rw [h2, qt_v]
      show (if tzF z (k + 1) 1 5 ≤ (fcF z k).2.1 then (fcF z k).2.1 else tzF z (k + 1) 1 5) = (if (fcF z k).2.1 < tzF z (k + 1) 1 5 then tzF z (k + 1) 1 5 else (fcF z k).2.1)
      by_cases c : tzF z (k + 1) 1 5 ≤ (fcF z k).2.1
      · rw [if_pos c, if_neg (Int32.not_lt.mpr c)]
      · rw [if_neg c, if_pos (Int32.not_le.mp c)]
    · show tkA z k + sizeF (tzF z k 3 0 - qTick 1 (tzF z k)) = (fcF z k).2.2 + s_X7_distance_r (tzF z (k + 1))
      rw [h3, qt_v, sizeFG, set_it]
      unfold s_X7_distance_r sizeG
      rw [set_it]
/-- one tick -/
theorem tk_acc4 : qAcc 4 (s_X7_passOne_z z) = qAcc 4 z + (if qAbout 19 (s_X7_passOne_z z) = qAbout 19 z then 0 else 1) ∧ qAbout 19 (s_X7_passOne_z z) = poR z := by
  have key : ∀ X : Nat → Int32, s_X7_passOne_z z 11 = X → X 1 = poR z → X 3 = (if poR z = z 11 1 then z 11 3 else z 11 3 + 1) → qAcc 4 (s_X7_passOne_z z) = qAcc 4 z + (if qAbout 19 (s_X7_passOne_z z) = qAbout 19 z then 0 else 1) ∧ qAbout 19 (s_X7_passOne_z z) = poR z := by
    intro X hX h1 h3
    have e1 : qAbout 19 (s_X7_passOne_z z) = poR z := by
      show s_X7_passOne_z z 11 1 = _
      rw [hX, h1]
    refine ⟨?_, e1⟩
    rw [e1]
    show s_X7_passOne_z z 11 3 = z 11 3 + (if poR z = z 11 1 then 0 else 1)
    rw [hX, h3]
    by_cases c : poR z = z 11 1
    · rw [if_pos c, if_pos c]; exact (Int32.add_zero _).symm
    · rw [if_neg c, if_neg c]
  by_cases c : z 3 6 = 1
  · obtain ⟨-, -, -, -, -, q⟩ := ps_on c
    refine key _ q ?_ ?_
    · exact ite_P (P := fun w : Nat → Int32 => w 1 = poR z) (fun _ => at_1) (fun _ => (upd_ne (by decide)).trans at_1)
    · exact ite_P (P := fun w : Nat → Int32 => w 3 = (if poR z = z 11 1 then z 11 3 else z 11 3 + 1)) (fun _ => at_3) (fun _ => (upd_ne (by decide)).trans at_3)
  · obtain ⟨-, -, -, -, -, q⟩ := ps_off c
    exact key _ q at_1 at_3
theorem tk_acc5 : qAcc 5 (s_X7_passOne_z z) = qAcc 5 z + (if qAbout 11 z = 1 then (if qAbout 5 z ≤ qAbout 12 z then 0 else (if tmR z < qAbout 5 z then 0 else 1)) else 0) := by
  show s_X7_passOne_z z 11 4 = z 11 4 + (if z 3 6 = 1 then (if z 3 0 ≤ z 1 5 then 0 else (if tmR z < z 3 0 then 0 else 1)) else 0)
  by_cases c : z 3 6 = 1
  · obtain ⟨-, -, -, -, -, q⟩ := ps_on c
    rw [q, if_pos c]
    unfold s_X8_watch_r
    by_cases c1 : z 3 0 ≤ z 1 5
    · rw [if_pos c1, if_pos rfl, at_4 (by decide) (by decide) (by decide), if_pos c1]; exact (Int32.add_zero _).symm
    · rw [if_neg c1, if_neg c1]
      by_cases c2 : z 3 0 ≤ tmR z
      · rw [if_pos c2, if_neg (by decide), upd_at, at_4 (by decide) (by decide) (by decide), if_neg (Int32.not_lt.mpr c2)]
      · rw [if_neg c2, if_pos rfl, at_4 (by decide) (by decide) (by decide), if_pos (Int32.not_le.mp c2)]; exact (Int32.add_zero _).symm
  · obtain ⟨-, -, -, -, -, q⟩ := ps_off c
    rw [q, if_neg c, at_4 (by decide) (by decide) (by decide)]; exact (Int32.add_zero _).symm
/-- the relay's law -/
def onF (h S b r : Int32) : Int32 := if h < S + b then (if h ≤ S - b then (1 : Int32) else (if r = 1 then (1 : Int32) else (0 : Int32))) else (0 : Int32)
theorem relay_on (hr : z 3 7 = 0 ∨ z 3 7 = 1) : (s_X1_relayAt_r (z 1 5) (z 3) = 0 ↔ onF (qAbout 12 z) (qAbout 5 z) (qAbout 6 z) (qAbout 14 z) = 0) ∧ s_X1_relayAt_r (z 1 5) (z 3) = s_X1_relayAt_w0 (z 1 5) (z 3) 7 := by
  refine ⟨?_, rfl⟩
  show _ ↔ (if z 1 5 < z 3 0 + z 3 1 then (if z 1 5 ≤ z 3 0 - z 3 1 then (1 : Int32) else (if (if z 3 7 = 0 then (0 : Int32) else 1) = 1 then (1 : Int32) else (0 : Int32))) else (0 : Int32)) = 0
  unfold s_X1_relayAt_r
  (try dsimp only)
  by_cases c1 : z 1 5 < z 3 0 + z 3 1
  · rw [if_pos c1, if_pos c1]
    by_cases c2 : z 3 0 - z 3 1 < z 1 5
    · rw [if_pos c2, if_neg (Int32.not_le.mpr c2)]
      rcases hr with e | e
      · rw [e]; decide
      · rw [e]; decide
    · rw [if_neg c2, if_pos (Int32.not_lt.mp c2), upd_at]
  · rw [if_neg c1, if_neg c1, upd_at]
theorem tk_on (hr : z 3 7 = 0 ∨ z 3 7 = 1) (c : z 3 6 = 1) : poR z = (if onF (qAbout 12 z) (qAbout 5 z) (qAbout 6 z) (qAbout 14 z) = 0 then 0 else qAbout 4 z) ∧ qAbout 14 (s_X7_passOne_z z) = (if onF (qAbout 12 z) (qAbout 5 z) (qAbout 6 z) (qAbout 14 z) = 0 then 0 else 1) := by
  obtain ⟨h1, h2⟩ := relay_on hr
  constructor
  · unfold poR s_X1_outputAt_r
    (try dsimp only)
    rw [if_pos c]
    by_cases q : s_X1_relayAt_r (z 1 5) (z 3) = 0
    · rw [if_pos q, if_pos (h1.mp q)]
    · rw [if_neg q, if_neg (fun k => q (h1.mpr k))]; rfl
  · show (if poC z 7 = 0 then (0 : Int32) else 1) = _
    have e : poC z 7 = s_X1_relayAt_r (z 1 5) (z 3) := by
      rw [h2]
      unfold poC s_X1_outputAt_w0
      rw [if_pos c]
    rw [e]
    by_cases q : s_X1_relayAt_r (z 1 5) (z 3) = 0
    · rw [if_pos q, if_pos (h1.mp q)]
    · rw [if_neg q, if_neg (fun k => q (h1.mpr k))]
theorem tk_off (c : z 3 6 = 0) : poR z = 0 := by
  unfold poR s_X1_outputAt_r
  rw [if_neg (by rw [c]; decide), if_neg (by rw [c]; decide)]
theorem tk_sum0 (c : ¬ z 3 6 = 2) : poC z 8 = z 3 8 := by
  unfold poC s_X1_outputAt_w0
  by_cases c1 : z 3 6 = 1
  · rw [if_pos c1]; exact relay_keep (by decide)
  · rw [if_neg c1, if_neg c]
theorem tk_sum2 (h : GZ B z) (c : z 3 6 = 2) (hn : ¬ poC z 8 = z 3 8) : ¬ sizeF (z 3 0 - z 1 5) < sizeF (poC z 8 - z 3 8) := by
  have hs := h.2.2.1.2.2.2.2.2.1
  have h0 := h.2.2.1.1.1
  have ht := h.2.1.2.2.2.2.2.1
  unfold rg at hs h0 ht
  have e : poC z 8 = if s_X11_within_r (wnR (z 1 5) (z 3)) 0 (z 1 4) = wnR (z 1 5) (z 3) then s_X11_within_r (z 3 8 + (z 3 0 - z 1 5)) (-9999) 9999 else z 3 8 := by
    unfold poC s_X1_outputAt_w0
    rw [if_neg (by rw [c]; decide), if_pos c]
    exact ctrl_8
  by_cases k : s_X11_within_r (wnR (z 1 5) (z 3)) 0 (z 1 4) = wnR (z 1 5) (z 3)
  · rw [if_pos k] at e
    have e1 : (z 3 0 - z 1 5).toInt = (z 3 0).toInt - (z 1 5).toInt := t_sub (by omega) (by omega)
    have e2 : (z 3 8 + (z 3 0 - z 1 5)).toInt = (z 3 8).toInt + ((z 3 0).toInt - (z 1 5).toInt) := by rw [t_add (by rw [e1]; omega) (by rw [e1]; omega), e1]
    have el : (-9999 : Int32).toInt = -9999 := rfl
    have eh : (9999 : Int32).toInt = 9999 := rfl
    have e3 := within_at (a := z 3 8 + (z 3 0 - z 1 5)) (b := -9999) (c := 9999) (by decide)
    rw [← e, e2, el, eh] at e3
    have e5 : ((poC z 8).toInt = -9999 ∧ (z 3 8).toInt + ((z 3 0).toInt - (z 1 5).toInt) < -9999) ∨ ((poC z 8).toInt = 9999 ∧ 9999 < (z 3 8).toInt + ((z 3 0).toInt - (z 1 5).toInt)) ∨ (-9999 ≤ (z 3 8).toInt + ((z 3 0).toInt - (z 1 5).toInt) ∧ (z 3 8).toInt + ((z 3 0).toInt - (z 1 5).toInt) ≤ 9999 ∧ (poC z 8).toInt = (z 3 8).toInt + ((z 3 0).toInt - (z 1 5).toInt)) := by
      rw [e3]
      split
      · omega
      · split <;> omega
    have hb : -9999 ≤ (poC z 8).toInt ∧ (poC z 8).toInt ≤ 9999 := by omega
    have e4 : (poC z 8 - z 3 8).toInt = (poC z 8).toInt - (z 3 8).toInt := t_sub (by omega) (by omega)
    intro q
    have q := t_lt.mp q
    rw [size_t (by rw [e1]; omega), size_t (by rw [e4]; omega), e1, e4] at q
    split at q <;> split at q <;> omega
  · rw [if_neg k] at e
    exact absurd e hn
theorem tk_up (h : GZ B z) (hu : ¬ (if tmR z ≤ z 1 5 then (0 : Int32) else (1 : Int32)) = 0) : ¬ sizeF ((z 1 3 + z 1 0 * z 1 4) - z 1 5) < tmR z - z 1 5 := by
  have ho := po_rg h
  have hP := h.2.1
  have up : (z 1 5).toInt < (tmR z).toInt := by
    by_cases c : tmR z ≤ z 1 5
    · exact absurd (if_pos c) hu
    · have := mt t_le.mpr c; omega
  obtain ⟨r0, r1, r2, r3⟩ := rs_rg hP ho
  have ht : (tmR z).toInt = _ := tm_t hP ho
  obtain ⟨b1, b2⟩ := ch_bd hP ho
  obtain ⟨p0, -, -, p3, p4, p5, -⟩ := hP
  unfold rg at p0 p3 p4 p5
  have m3 : (z 1 0).toInt * (z 1 4).toInt ≤ 20 * 99 := Int.mul_le_mul p0.2 p4.2 (by omega) (by decide)
  have m4 : 0 ≤ (z 1 0).toInt * (z 1 4).toInt := Int.mul_nonneg (by omega) (by omega)
  have em : (z 1 0 * z 1 4).toInt = (z 1 0).toInt * (z 1 4).toInt := t_mul (by omega) (by omega)
  have ea : (z 1 3 + z 1 0 * z 1 4).toInt = (z 1 3).toInt + (z 1 0).toInt * (z 1 4).toInt := by rw [t_add (by rw [em]; omega) (by rw [em]; omega), em]
  have eg : ((z 1 3 + z 1 0 * z 1 4) - z 1 5).toInt = (z 1 3).toInt + (z 1 0).toInt * (z 1 4).toInt - (z 1 5).toInt := by rw [t_sub (by rw [ea]; omega) (by rw [ea]; omega), ea]
  have hc : (tmR z).toInt ≤ (z 1 5).toInt + (chR (poR z) (z 1) (z 2)).toInt := by
    rw [ht] at up ⊢
    split at up
    · omega
    · split at up <;> rename_i h1 h2
      · rw [if_neg h1, if_pos h2]; omega
      · rw [if_neg h1, if_neg h2]; exact Int.le_refl _
  have hr : (z 1 5).toInt < (rsR (poR z) (z 1) (z 2)).toInt := by
    rcases Int.lt_or_le (z 1 5).toInt (rsR (poR z) (z 1) (z 2)).toInt with q | q
    · exact q
    · have := b2 q; omega
  have := b1 (by omega)
  have tb : -9999 ≤ (tmR z).toInt ∧ (tmR z).toInt ≤ 9999 := by
    rw [ht]
    split
    · omega
    · split <;> omega
  intro q
  have q := t_lt.mp q
  rw [size_t (by rw [eg]; omega), eg, t_sub (by omega) (by omega)] at q
  split at q <;> omega
theorem tk_step (h : GZ B z) (hd : z 1 2 = 0) (hn : ¬ tmR z = z 1 5 + (if 0 ≤ (z 1 3 + z 1 0 * poR z) - z 1 5 then (if sizeF ((z 1 3 + z 1 0 * poR z) - z 1 5) / z 1 1 = 0 then (if (z 1 3 + z 1 0 * poR z) - z 1 5 = 0 then sizeF ((z 1 3 + z 1 0 * poR z) - z 1 5) / z 1 1 else (1 : Int32)) else sizeF ((z 1 3 + z 1 0 * poR z) - z 1 5) / z 1 1) else -(if sizeF ((z 1 3 + z 1 0 * poR z) - z 1 5) / z 1 1 = 0 then (if (z 1 3 + z 1 0 * poR z) - z 1 5 = 0 then sizeF ((z 1 3 + z 1 0 * poR z) - z 1 5) / z 1 1 else (1 : Int32)) else sizeF ((z 1 3 + z 1 0 * poR z) - z 1 5) / z 1 1))) : sizeF (tmR z) = 9999 := by
  have ho := po_rg h
  have hP := h.2.1
  have ep : pwR (poR z) (z 1) (z 2) = poR z := pw_0 hP.2.2.2.2.2.2.1 hd
  have er : z 1 3 + z 1 0 * poR z = rsR (poR z) (z 1) (z 2) := by unfold rsR; rw [ep]
  rw [er] at hn
  obtain ⟨-, r1, r2, -⟩ := rs_rg hP ho
  have ht : (tmR z).toInt = _ := tm_t hP ho
  have hc := ch_t hP ho
  have hcb := ch_bd hP ho
  obtain ⟨-, p1, -, -, -, p5, -⟩ := hP
  unfold rg at p1 p5
  generalize rsR (poR z) (z 1) (z 2) = R at *
  have e0 : (0 : Int32).toInt = 0 := rfl
  have e1 : (1 : Int32).toInt = 1 := rfl
  have eg : (R - z 1 5).toInt = R.toInt - (z 1 5).toInt := t_sub (by omega) (by omega)
  have es := size_t (a := R - z 1 5) (by rw [eg]; omega)
  have ed : (sizeF (R - z 1 5) / z 1 1).toInt = (sizeF (R - z 1 5)).toInt.tdiv (z 1 1).toInt := t_div (by omega)
  rw [es, eg] at ed
  obtain ⟨S, eS⟩ : ∃ S, S = sizeF (R - z 1 5) / z 1 1 := ⟨_, rfl⟩
  rw [← eS] at hn ed
  have eX : (if 0 ≤ R - z 1 5 then (if S = 0 then (if R - z 1 5 = 0 then S else (1 : Int32)) else S) else -(if S = 0 then (if R - z 1 5 = 0 then S else (1 : Int32)) else S)).toInt = (chR (poR z) (z 1) (z 2)).toInt := by
    rw [hc]
    by_cases c : 0 ≤ R - z 1 5
    · have c' := t_le.mp c
      rw [e0, eg] at c'
      have c2 : ¬ R.toInt - (z 1 5).toInt < 0 := by omega
      have c3 : ¬ R.toInt < (z 1 5).toInt := by omega
      rw [if_neg c2] at ed
      rw [if_pos c]
      by_cases k : S = 0
      · have kT : (R.toInt - (z 1 5).toInt).tdiv (z 1 1).toInt = 0 := by rw [← ed, k]; rfl
        rw [if_pos k, if_pos kT, if_neg c3]
        by_cases k2 : R - z 1 5 = 0
        · have k3 : R.toInt = (z 1 5).toInt := by have := t_eq.mp k2; rw [eg, e0] at this; omega
          rw [if_pos k2, k, if_pos k3]; rfl
        · have k3 : ¬ R.toInt = (z 1 5).toInt := fun q => k2 (t_eq.mpr (by rw [eg, e0]; omega))
          rw [if_neg k2, if_neg k3]; rfl
      · have kT : ¬ (R.toInt - (z 1 5).toInt).tdiv (z 1 1).toInt = 0 := fun q => k (t_eq.mpr (by rw [ed, q, e0]))
        rw [if_neg k, if_neg kT]
        exact ed
    · have c' := mt t_le.mpr c
      rw [e0, eg] at c'
      have c2 : R.toInt - (z 1 5).toInt < 0 := by omega
      have c3 : R.toInt < (z 1 5).toInt := by omega
      rw [if_pos c2, Int.neg_tdiv] at ed
      rw [if_neg c]
      have k2 : ¬ R - z 1 5 = 0 := fun q => by have := t_eq.mp q; rw [eg, e0] at this; omega
      by_cases k : S = 0
      · have kT : (R.toInt - (z 1 5).toInt).tdiv (z 1 1).toInt = 0 := by rw [k, e0] at ed; omega
        rw [if_pos k, if_pos kT, if_pos c3, if_neg k2]; rfl
      · have kT : ¬ (R.toInt - (z 1 5).toInt).tdiv (z 1 1).toInt = 0 := fun q => k (t_eq.mpr (by rw [ed, q, e0]; rfl))
        obtain ⟨q1, q2⟩ := tdiv_pos_le (g := -(R.toInt - (z 1 5).toInt)) (n := (z 1 1).toInt) (by omega) p1.1
        rw [Int.neg_tdiv, ← ed] at q1
        rw [if_neg k, if_neg kT, t_neg (by omega), ed, Int.neg_neg]
  have hb : -10200 ≤ (chR (poR z) (z 1) (z 2)).toInt ∧ (chR (poR z) (z 1) (z 2)).toInt ≤ 12100 := by
    rcases Int.le_total (z 1 5).toInt R.toInt with q | q
    · have := hcb.1 q; omega
    · have := hcb.2 q; omega
  rw [t_eq]
  have e9 : (9999 : Int32).toInt = 9999 := rfl
  by_cases k1 : (z 1 5).toInt + (chR (poR z) (z 1) (z 2)).toInt < -9999
  · rw [if_pos k1] at ht
    rw [size_t (by omega), ht, e9]; rfl
  · rw [if_neg k1] at ht
    by_cases k2 : 9999 < (z 1 5).toInt + (chR (poR z) (z 1) (z 2)).toInt
    · rw [if_pos k2] at ht
      rw [size_t (by omega), ht, e9]; rfl
    · rw [if_neg k2] at ht
      refine absurd (t_eq.mpr ?_) hn
      rw [t_add (by rw [eX]; omega) (by rw [eX]; omega), eX, ht]
theorem x_rem {x : Int32} (hx : 0 ≤ x.toInt) {d : Nat} (hd : 0 < d) (hd2 : d < 1000000) : x - x / nI d * nI d = nI (tn x % d) := by
  have hb := t_b x
  have ht := t_tn hx
  have e := t_nI hx
  have := pk_rem (a := tn x) (d := d) (by omega) hd (by omega)
  rw [← e] at this
  exact this
theorem x_div {x : Int32} (hx : 0 ≤ x.toInt) {d : Nat} (hd : 0 < d) (hd2 : d < 1000000) : x / nI d = nI (tn x / d) := by
  have hb := t_b x
  have ht := t_tn hx
  have e := t_nI hx
  have := pk_div (a := tn x) (d := d) (by omega) hd (by omega)
  rw [← e] at this
  exact this
theorem fx_ticks {x : Int32} (h : GZ B z) (hB : B ≤ 800000) (hx : 0 ≤ x.toInt) : FX_ticks x z := by
  have em : (1 + (x - x / 30 * 30)) = nI (1 + tn x % 30) := by
    rw [show x - x / 30 * 30 = nI (tn x % 30) from x_rem hx (d := 30) (by decide) (by decide)]
    exact nI_add 1 _
  have hm : 1 + tn x % 30 ≤ 30 := by have := Nat.mod_lt (tn x) (show 0 < 30 by decide); omega
  obtain ⟨m, em2⟩ : ∃ m, m = 1 + tn x % 30 := ⟨_, rfl⟩
  rw [← em2] at em hm
  have h1m : 1 ≤ m := by omega
  have etn : tn (nI m) = m := nI_clamp (by omega)
  unfold FX_ticks
  rw [em, etn]
  obtain ⟨v0, v1, v2, v3, v4⟩ := ahead_v (z := z) (k := m) (by omega)
  obtain ⟨t0, t1, t2⟩ := tk_v (z := z) m
  obtain ⟨w0, -, w2, -, w4⟩ := ahead_v (z := z) (k := 0) (by omega)
  have hG : ∀ t : Nat, t ≤ 30 → GZ (B + t) (tzF z t) := fun t ht => it_GZ h (by omega) t (by omega)
  refine ⟨w0, w2, w4, hm, fun t => pas_TS h.ts t, tz_s, fun t ht c => ?_, fun t ht c => ?_, v0.symm, t0.trans v1.symm, t1.trans v2.symm, v3.symm, t2.trans v4.symm, fun _ _ _ => by decide, fun t _ _ => by rw [tz_s]; exact pas_TS h.ts (t + 1), fun t _ _ => by rw [tz_s]; exact qt_v, fun t _ _ => by rw [tz_s]; exact tk_acc4.1, fun t _ _ => ?_, fun t _ _ => by rw [tz_s]; exact fx_sound (hG (t + 1) (by omega)) (by omega), fun t _ _ => by rw [tz_s]; rfl, fun t _ _ => rfl, fun t _ _ => rfl, fun t _ _ c d => ?_, fun t _ _ c => ?_, fun t _ _ c => ?_, fun t _ _ c => ?_, fun t _ _ c => ?_, fun t _ _ c => ?_⟩
  · have := (nI_leI (a := m) (b := t) (by omega) (by omega)).mp c; omega
  · have := mt (nI_leI (a := m) (b := t) (by omega) (by omega)).mpr c; omega
  · rw [tz_s, qt_v]; exact tk_acc5 (z := tzF z t)
  · rw [tz_s] at d ⊢
    exact tk_sum2 (hG t (by omega)) c d
  · rw [qt_v] at c
    rw [tz_s, qt_v]
    exact tk_up (hG t (by omega)) c
  · rw [tz_s]
    exact tk_sum0 (z := tzF z t) c
  · rw [tz_s, show qAbout 19 (tzF z (t + 1)) = poR (tzF z t) from tk_acc4.2]
    exact (tk_on (hG t (by omega)).2.2.1.2.2.2.1 c).1
  · rw [tz_s]
    exact (tk_on (hG t (by omega)).2.2.1.2.2.2.1 c).2
  · rw [tz_s, show qAbout 19 (tzF z (t + 1)) = poR (tzF z t) from tk_acc4.2]
    exact tk_off c
theorem fx_steps (h : GZ B z) (hB : B ≤ 800000) : FX_steps z := by
  have hG : ∀ t : Nat, t ≤ 30 → GZ (B + t) (tzF z t) := fun t ht => it_GZ h (by omega) t (by omega)
  refine ⟨fun t => pas_TS h.ts t, tz_s, fun _ _ _ _ _ => by decide, fun t _ _ _ _ => by rw [tz_s]; exact pas_TS h.ts (t + 1), fun t _ _ _ _ => ?_, fun t _ _ _ c d => ?_⟩
  · rw [tz_s]
    intro q
    have h1 := (hG (t + 1) (by omega)).2.1.2.1.1
    have : (tzF z (t + 1) 1 1).toInt = 0 := by rw [show tzF z (t + 1) 1 1 = 0 from q]; rfl
    omega
  · rw [tz_s, show qAbout 19 (tzF z (t + 1)) = poR (tzF z t) from tk_acc4.2, qt_v] at d
    rw [qt_v]
    exact tk_step (hG t (by omega)) c d
end TCK

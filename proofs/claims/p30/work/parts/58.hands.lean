/-! ===== what the law's hands ask: outcomes, tolerances, settling, discarding, trials ===== -/
theorem tol_sp (g : Nat → Nat) (a : Int32) : ∀ r k : Nat, (tolS g a r k = -99999 ∧ ∀ j, k ≤ j → j < k + r → nI (g j) < a) ∨ (∃ j, k ≤ j ∧ j < k + r ∧ tolS g a r k = nI j ∧ ¬ nI (g j) < a ∧ ∀ i, k ≤ i → i < j → nI (g i) < a)
  | 0, k => Or.inl ⟨rfl, fun j h1 h2 => absurd h2 (by omega)⟩
  | r + 1, k => by
    simp only [tolS]
    by_cases c : nI (g k) < a
    · rw [if_pos c]
      rcases tol_sp g a r (k + 1) with ⟨e, h⟩ | ⟨j, h1, h2, e, h3, h4⟩
      · refine Or.inl ⟨e, fun j q1 q2 => ?_⟩
        by_cases c2 : j = k
        · subst c2; exact c
        · exact h j (by omega) (by omega)
      · refine Or.inr ⟨j, by omega, by omega, e, h3, fun i q1 q2 => ?_⟩
        by_cases c2 : i = k
        · subst c2; exact c
        · exact h4 i (by omega) q2
    · rw [if_neg c]
      exact Or.inr ⟨k, Nat.le_refl _, by omega, rfl, c, fun i q1 q2 => absurd q2 (by omega)⟩
theorem nI_no {j : Nat} (h : j < 1000000) : ¬ nI j = -99999 := fun q => by
  have := congrArg Int32.toInt q
  rw [t_n (by omega)] at this
  have e0 : (-99999 : Int32).toInt = -99999 := rfl
  omega
theorem no_neg {v : Int32} (h : 0 ≤ v.toInt) : ¬ v = -99999 := fun q => by
  rw [q] at h
  exact absurd h (by decide)
theorem nI_inj {i j : Nat} (hi : i < 1000000) (hj : j < 1000000) (h : nI i = nI j) : i = j := by
  have := congrArg Int32.toInt h
  rw [t_n (by omega), t_n (by omega)] at this
  omega
section HND
variable {z : Zs} {B : Int} {a b p : Int32} {f g : Nat → Int32}
theorem st_sp (w : Int32) : ∀ k : Nat, k ≤ 1000 → (stF z w k = -99999 ∧ w < s_X7_distance_r (tzF z k)) ∨ (∃ j, j ≤ k ∧ stF z w k = nI j ∧ ¬ w < s_X7_distance_r (tzF z j) ∧ (0 < j → w < s_X7_distance_r (tzF z (j - 1))))
  | 0, _ => by
    simp only [stF]
    by_cases c : w < s_X7_distance_r z
    · rw [if_pos c]; exact Or.inl ⟨rfl, c⟩
    · rw [if_neg c]; exact Or.inr ⟨0, Nat.le_refl _, rfl, c, fun q => absurd q (Nat.lt_irrefl _)⟩
  | k + 1, hk => by
    simp only [stF]
    by_cases c : s_X7_distance_r (itF s_X7_passOne_z (k + 1) z) ≤ w
    · rw [if_pos c]
      rcases st_sp w k (by omega) with ⟨e, h⟩ | ⟨j, h1, e, h2, h3⟩
      · rw [if_pos e]
        exact Or.inr ⟨k + 1, Nat.le_refl _, rfl, Int32.not_lt.mpr c, fun _ => h⟩
      · have hn : ¬ stF z w k = -99999 := by rw [e]; exact nI_no (by omega)
        rw [if_neg hn]
        exact Or.inr ⟨j, by omega, e, h2, h3⟩
    · rw [if_neg c]
      exact Or.inl ⟨rfl, Int32.not_le.mp c⟩
theorem sz_sym (ha : -20000 ≤ a.toInt ∧ a.toInt ≤ 20000) (hb : -20000 ≤ b.toInt ∧ b.toInt ≤ 20000) : sizeF (a - b) = sizeF (b - a) := by
  have e1 : (a - b).toInt = a.toInt - b.toInt := t_sub (by omega) (by omega)
  have e2 : (b - a).toInt = b.toInt - a.toInt := t_sub (by omega) (by omega)
  rw [t_eq, size_t (by rw [e1]; omega), size_t (by rw [e2]; omega), e1, e2]
  split <;> split <;> omega
theorem di_t (h : GZ B z) : 0 ≤ (s_X7_distance_r z).toInt ∧ (s_X7_distance_r z).toInt ≤ 11000 := by
  have h0 := h.2.2.1.1.1
  have ht := h.2.1.2.2.2.2.2.1
  unfold rg at h0 ht
  have e1 : (z 3 0 - z 1 5).toInt = (z 3 0).toInt - (z 1 5).toInt := t_sub (by omega) (by omega)
  rw [show s_X7_distance_r z = sizeG (z 3 0 - z 1 5) from rfl, ← sizeFG, size_t (by rw [e1]; omega), e1]
  split <;> omega
theorem di_s (h : GZ B z) : sizeF (z 1 5 - z 3 0) = s_X7_distance_r z := by
  have h0 := h.2.2.1.1.1
  have ht := h.2.1.2.2.2.2.2.1
  unfold rg at h0 ht
  rw [show s_X7_distance_r z = sizeG (z 3 0 - z 1 5) from rfl, ← sizeFG]
  exact sz_sym (by omega) (by omega)
theorem fc_bd (hG : ∀ t : Nat, t ≤ 200 → GZ (B + t) (tzF z t)) : ∀ k : Nat, k ≤ 200 → 0 ≤ (fcF z k).2.2.toInt ∧ (fcF z k).2.2.toInt ≤ (k : Int) * 11000
  | 0, _ => ⟨(show (0 : Int) ≤ (0 : Int32).toInt by decide), (show (0 : Int32).toInt ≤ ((0 : Nat) : Int) * 11000 by decide)⟩
  | k + 1, hk => by
    obtain ⟨h1, h2⟩ := fc_bd hG k (by omega)
    obtain ⟨d1, d2⟩ := di_t (hG (k + 1) hk)
    have e : (fcF z (k + 1)).2.2 = (fcF z k).2.2 + s_X7_distance_r (tzF z (k + 1)) := rfl
    rw [e, t_add (by omega) (by omega)]
    omega
/-- outcomes -/
theorem out_k {r m : Nat} (hr : r < 4) (h1 : 1 ≤ m) (h2 : m ≤ 200) (hb : s_X11_isForecast_r b = 1) : s_X11_outcome_k (nI r) (nI m) b = 0 := by
  unfold s_X11_outcome_k
  rw [rule_ok hr, ticks_ok h1 h2, hb]
  rfl
theorem ou_of {r m : Nat} (hr : r < 4) (h1 : 1 ≤ m) (h2 : m ≤ 200) (hb : s_X11_isForecast_r b = 1) : qOut (nI r) (nI m) b z = s_X11_outcomeOf_r (nI r) (nI m) b z := an_k0 (out_k hr h1 h2 hb)
theorem gc_eq : s_X7_goodCount_r z = nI (gN z) := rfl
theorem gc_0 (h : GZ B z) : s_X7_goodCount_r z = 0 ↔ gN z = 0 := fine_0 h
theorem ou_no (h : GZ B z) (hg : gN z = 0) : s_X11_outcomeOf_r a p b z = -99999 := if_pos ((gc_0 h).mpr hg)
theorem ou_yes (h : GZ B z) (hg : ¬ gN z = 0) : s_X11_outcomeOf_r a p b z = s_X11_forecast_r p b (s_X7_follow_z a z) := if_neg (fun q => hg ((gc_0 h).mp q))
theorem fo_v0 {m : Nat} (hm : m ≤ 200) : s_X11_forecast_r (nI m) 0 z = tzF z m 1 5 := by
  have e : tn (nI m) = m := nI_clamp (by omega)
  unfold s_X11_forecast_r
  rw [e]; rfl
theorem fo_v4 {m : Nat} (hm : m ≤ 200) : s_X11_forecast_r (nI m) 4 z = (fcF z m).2.2 := by
  have e : tn (nI m) = m := nI_clamp (by omega)
  unfold s_X11_forecast_r
  rw [e]; rfl
theorem ou_pos (h : GZ B z) (h0 : 0 ≤ B) (hB : B ≤ 10000) (hg : ¬ gN z = 0) {m : Nat} (hm : m ≤ 200) : 0 ≤ (s_X11_outcomeOf_r a (nI m) 4 z).toInt := by
  rw [ou_yes h hg, fo_v4 hm]
  exact (fc_bd (fun t ht => it_GZ (fo_GZ (a := a) h hB hg) (by omega) t (by omega)) m hm).1
theorem none_iff {v : Int32} (h : GZ B z) (h1 : gN z = 0 → v = -99999) (h2 : ¬ gN z = 0 → 0 ≤ v.toInt) : (if qAbout 17 z = 0 then (1 : Int32) else 0) = (if v = -99999 then (1 : Int32) else 0) := by
  by_cases hg : gN z = 0
  · rw [if_pos ((fine_0 h).mpr hg), if_pos (h1 hg)]
  · rw [if_neg (fun q => hg ((fine_0 h).mp q)), if_neg (no_neg (h2 hg))]
/-- the best of four -/
def sel4 (o0 o1 o2 o3 : Int32) (r : Nat) : Int32 := if r = 0 then o0 else if r = 1 then o1 else if r = 2 then o2 else o3
theorem sel4_0 (a b c d : Int32) : sel4 a b c d 0 = a := rfl
theorem sel4_1 (a b c d : Int32) : sel4 a b c d 1 = b := rfl
theorem sel4_2 (a b c d : Int32) : sel4 a b c d 2 = c := rfl
theorem sel4_3 (a b c d : Int32) : sel4 a b c d 3 = d := rfl
theorem best4 (o0 o1 o2 o3 : Int32) : ∃ b : Nat, b < 4 ∧ (if (if (if o0 ≤ o1 then o0 else o1) ≤ o2 then (if o0 ≤ o1 then o0 else o1) else o2) ≤ o3 then (if (if o0 ≤ o1 then o0 else o1) ≤ o2 then (if o0 ≤ o1 then (0 : Int32) else 1) else 2) else 3) = nI b ∧ ∀ r, r < 4 → ¬ sel4 o0 o1 o2 o3 b < sel4 o0 o1 o2 o3 r → sel4 o0 o1 o2 o3 b = sel4 o0 o1 o2 o3 r ∧ b ≤ r := by
  have key : ∀ b : Nat, b < 4 → ∀ v : Int32, v = nI b → (∀ r, r < 4 → (sel4 o0 o1 o2 o3 b).toInt ≤ (sel4 o0 o1 o2 o3 r).toInt ∧ (r < b → (sel4 o0 o1 o2 o3 b).toInt < (sel4 o0 o1 o2 o3 r).toInt)) → ∃ b : Nat, b < 4 ∧ v = nI b ∧ ∀ r, r < 4 → ¬ sel4 o0 o1 o2 o3 b < sel4 o0 o1 o2 o3 r → sel4 o0 o1 o2 o3 b = sel4 o0 o1 o2 o3 r ∧ b ≤ r := fun b hb v hv h => ⟨b, hb, hv, fun r hr q => by
    obtain ⟨h1, h2⟩ := h r hr
    have q := mt t_lt.mpr q
    refine ⟨t_eq.mpr (by omega), ?_⟩
    rcases Nat.lt_or_ge r b with k | k
    · have := h2 k; omega
    · exact k⟩
  have s0 : sel4 o0 o1 o2 o3 0 = o0 := rfl
  have s1 : sel4 o0 o1 o2 o3 1 = o1 := rfl
  have s2 : sel4 o0 o1 o2 o3 2 = o2 := rfl
  have s3 : sel4 o0 o1 o2 o3 3 = o3 := rfl
  by_cases c1 : o0 ≤ o1
  · have d1 := t_le.mp c1
    simp only [if_pos c1]
    by_cases c2 : o0 ≤ o2
    · have d2 := t_le.mp c2
      simp only [if_pos c2]
      by_cases c3 : o0 ≤ o3
      · have d3 := t_le.mp c3
        rw [if_pos c3]
        exact key 0 (by omega) _ rfl (fun r hr => by
          rcases (show r = 0 ∨ r = 1 ∨ r = 2 ∨ r = 3 by omega) with rfl | rfl | rfl | rfl <;> simp only [s0, s1, s2, s3] <;> omega)
      · have d3 := mt t_le.mpr c3
        rw [if_neg c3]
        exact key 3 (by omega) _ rfl (fun r hr => by
          rcases (show r = 0 ∨ r = 1 ∨ r = 2 ∨ r = 3 by omega) with rfl | rfl | rfl | rfl <;> simp only [s0, s1, s2, s3] <;> omega)
    · have d2 := mt t_le.mpr c2
      simp only [if_neg c2]
      by_cases c3 : o2 ≤ o3
      · have d3 := t_le.mp c3
        rw [if_pos c3]
        exact key 2 (by omega) _ rfl (fun r hr => by
          rcases (show r = 0 ∨ r = 1 ∨ r = 2 ∨ r = 3 by omega) with rfl | rfl | rfl | rfl <;> simp only [s0, s1, s2, s3] <;> omega)
      · have d3 := mt t_le.mpr c3
        rw [if_neg c3]
        exact key 3 (by omega) _ rfl (fun r hr => by
          rcases (show r = 0 ∨ r = 1 ∨ r = 2 ∨ r = 3 by omega) with rfl | rfl | rfl | rfl <;> simp only [s0, s1, s2, s3] <;> omega)
  · have d1 := mt t_le.mpr c1
    simp only [if_neg c1]
    by_cases c2 : o1 ≤ o2
    · have d2 := t_le.mp c2
      simp only [if_pos c2]
      by_cases c3 : o1 ≤ o3
      · have d3 := t_le.mp c3
        rw [if_pos c3]
        exact key 1 (by omega) _ rfl (fun r hr => by
          rcases (show r = 0 ∨ r = 1 ∨ r = 2 ∨ r = 3 by omega) with rfl | rfl | rfl | rfl <;> simp only [s0, s1, s2, s3] <;> omega)
      · have d3 := mt t_le.mpr c3
        rw [if_neg c3]
        exact key 3 (by omega) _ rfl (fun r hr => by
          rcases (show r = 0 ∨ r = 1 ∨ r = 2 ∨ r = 3 by omega) with rfl | rfl | rfl | rfl <;> simp only [s0, s1, s2, s3] <;> omega)
    · have d2 := mt t_le.mpr c2
      simp only [if_neg c2]
      by_cases c3 : o2 ≤ o3
      · have d3 := t_le.mp c3
        rw [if_pos c3]
        exact key 2 (by omega) _ rfl (fun r hr => by
          rcases (show r = 0 ∨ r = 1 ∨ r = 2 ∨ r = 3 by omega) with rfl | rfl | rfl | rfl <;> simp only [s0, s1, s2, s3] <;> omega)
      · have d3 := mt t_le.mpr c3
        rw [if_neg c3]
        exact key 3 (by omega) _ rfl (fun r hr => by
          rcases (show r = 0 ∨ r = 1 ∨ r = 2 ∨ r = 3 by omega) with rfl | rfl | rfl | rfl <;> simp only [s0, s1, s2, s3] <;> omega)
theorem be_k {m : Nat} (h1 : 1 ≤ m) (h2 : m ≤ 200) : s_X11_bestRule_k (nI m) z = 0 := by
  unfold s_X11_bestRule_k
  rw [ticks_ok h1 h2, if_neg (show ¬ (1 : Int32) = 0 by decide)]
  exact ite_self _
theorem be_v (h : GZ B z) (hg : ¬ gN z = 0) {m : Nat} (h1 : 1 ≤ m) (h2 : m ≤ 200) : ∃ b : Nat, b < 4 ∧ qBest (nI m) z = nI b ∧ ∀ r, r < 4 → ¬ qOut (nI b) (nI m) 4 z < qOut (nI r) (nI m) 4 z → qOut (nI b) (nI m) 4 z = qOut (nI r) (nI m) 4 z ∧ b ≤ r := by
  obtain ⟨b, hb, e, k⟩ := best4 (s_X11_outcomeOf_r 0 (nI m) 4 z) (s_X11_outcomeOf_r 1 (nI m) 4 z) (s_X11_outcomeOf_r 2 (nI m) 4 z) (s_X11_outcomeOf_r 3 (nI m) 4 z)
  have hs : ∀ r, r < 4 → sel4 (s_X11_outcomeOf_r 0 (nI m) 4 z) (s_X11_outcomeOf_r 1 (nI m) 4 z) (s_X11_outcomeOf_r 2 (nI m) 4 z) (s_X11_outcomeOf_r 3 (nI m) 4 z) r = qOut (nI r) (nI m) 4 z := fun r hr => by
    rw [ou_of hr h1 h2 (by decide)]
    rcases (show r = 0 ∨ r = 1 ∨ r = 2 ∨ r = 3 by omega) with rfl | rfl | rfl | rfl
    · exact sel4_0 _ _ _ _
    · exact sel4_1 _ _ _ _
    · exact sel4_2 _ _ _ _
    · exact sel4_3 _ _ _ _
  refine ⟨b, hb, ?_, fun r hr => ?_⟩
  · refine (an_k0 (be_k h1 h2)).trans (Eq.trans ?_ e)
    unfold s_X11_bestRule_r
    rw [if_neg (fun q => hg ((gc_0 h).mp q))]
    simp only [bd]
  · have := k r hr
    rw [hs b hb, hs r hr] at this
    exact this
theorem be_no (h : GZ B z) (hg : gN z = 0) {m : Nat} (h1 : 1 ≤ m) (h2 : m ≤ 200) : qBest (nI m) z = -99999 := (an_k0 (be_k h1 h2)).trans (if_pos ((gc_0 h).mpr hg))
/-- disturbed -/
theorem di_k (h1 : -100 ≤ p.toInt) (h2 : p.toInt ≤ 100) : s_X11_disturb_k p = 0 := by
  have e5 : (500 : Int32).toInt = 500 := rfl
  have e6 : (-500 : Int32).toInt = -500 := rfl
  have q1 : ¬ p < -500 := fun q => by have := t_lt.mp q; omega
  have q2 : ¬ 500 < p := fun q => by have := t_lt.mp q; omega
  unfold s_X11_disturb_k s_X11_isDisturbance_r
  (try dsimp only)
  rw [if_neg q1, if_neg q2]
  rfl
theorem di_q (hk : s_X11_disturb_k p = 0) : qDist p z = s_X11_disturb_z p z 1 5 := an_k0 hk
theorem di_a (hk : s_X11_disturb_k p = 0) : qAcc 6 (s_X11_disturb_z p z) = qAcc 6 z + 1 := by
  obtain ⟨-, e⟩ := dist_1 (z := z) hk
  show s_X11_disturb_z p z 11 5 = z 11 5 + 1
  rw [e, upd_at]
/-- the tolerance -/
theorem st_k {j : Nat} (h : j < 100) : s_X11_set_k 7 (nI j) = 0 := (by decide : ∀ j : Fin 100, s_X11_set_k 7 (nI j.val) = 0) ⟨j, h⟩
theorem st_3 {j : Nat} (h : j < 100) : s_X11_set_z 7 (nI j) z 3 = upd (z 3) 2 (nI j) := by
  rw [set_eq]
  have hs : ¬ s_X11_isSetting_r 7 (nI j) = 0 := fun q => by
    have := st_k h
    unfold s_X11_set_k at this
    rw [if_pos q] at this
    exact absurd this (by decide)
  exact put_3 (k := 7) hs rfl (by decide) (by decide)
def gT (z : Zs) (k : Nat) : Nat := goodG (z 5) (sC (z 6) (z 7)) (tn (z 4 0)) (nI k) (tn (z 4 0))
theorem st_17 {j : Nat} (h : j < 100) : qAbout 17 (s_X11_set_z 7 (nI j) z) = nI (gT z j) := by
  show nI (goodG (z 5) (sC (z 6) (z 7)) (tn (z 4 0)) (s_X11_set_z 7 (nI j) z 3 2) (tn (z 4 0))) = _
  rw [st_3 h, upd_at]
  rfl
theorem st_gT {v : Int32} (k : Nat) : gT (s_X11_set_z 7 v z) k = gT z k := rfl
theorem st_q {j : Nat} (h : j < 100) : qSet 7 (nI j) z = z 3 2 := (an_k0 (st_k h)).trans rfl
theorem st_GZ (h : GZ B z) {j : Nat} (hj : j < 100) : GZ B (s_X11_set_z 7 (nI j) z) := set_GZ h (st_k hj)
theorem to_v {q : Nat} (h1 : 1 ≤ q) (h2 : q ≤ 20) : qTol (nI q) z = tolS (gT z) (nI q) 100 0 := by
  refine (an_k0 ?_).trans rfl
  exact (by decide : ∀ q : Fin 20, s_X11_toleranceFor_k (nI (q.val + 1)) = 0) ⟨q - 1, by omega⟩ |> fun h => by rwa [show (⟨q - 1, (by omega : q - 1 < 20)⟩ : Fin 20).val + 1 = q from (by show q - 1 + 1 = q; omega)] at h
theorem to_sp {q : Nat} (h1 : 1 ≤ q) (h2 : q ≤ 20) : (qTol (nI q) z = -99999 ∧ ∀ j, j < 100 → nI (gT z j) < nI q) ∨ (∃ j, j < 100 ∧ qTol (nI q) z = nI j ∧ ¬ nI (gT z j) < nI q ∧ ∀ i, i < j → nI (gT z i) < nI q) := by
  rw [to_v h1 h2]
  rcases tol_sp (gT z) (nI q) 100 0 with ⟨e, k⟩ | ⟨j, -, k1, e, k2, k3⟩
  · exact Or.inl ⟨e, fun j hj => k j (Nat.zero_le _) (by omega)⟩
  · exact Or.inr ⟨j, by omega, e, k2, fun i hi => k3 i (Nat.zero_le _) hi⟩
/-- settling -/
theorem se_sp (h : GZ B z) (h0 : 0 ≤ B) (hB : B ≤ 10000) {w : Nat} (hw : w < 100) : (qSettle (nI w) z = -99999 ∧ nI w < sizeF (qAhead 200 0 z - qAbout 5 z)) ∨ (∃ j, j ≤ 200 ∧ qSettle (nI w) z = nI j ∧ ¬ nI w < sizeF (qAhead (nI j) 0 z - qAbout 5 z) ∧ (0 < j → nI w < sizeF (qAhead (nI (j - 1)) 0 z - qAbout 5 z))) := by
  have hk : s_X11_settlesAfter_k (nI w) = 0 := (by decide : ∀ j : Fin 100, s_X11_settlesAfter_k (nI j.val) = 0) ⟨w, hw⟩
  have ev : qSettle (nI w) z = stF z (nI w) 200 := an_k0 hk
  have hd : ∀ j : Nat, j ≤ 200 → sizeF (qAhead (nI j) 0 z - qAbout 5 z) = s_X7_distance_r (tzF z j) := fun j hj => by
    rw [(ahead_v (z := z) hj).1, show qAbout 5 z = tzF z j 3 0 from (set_it j).symm]
    exact di_s (it_GZ h (by omega) j (by omega))
  rw [ev]
  rcases st_sp (z := z) (nI w) 200 (by omega) with ⟨e, k⟩ | ⟨j, hj, e, k1, k2⟩
  · refine Or.inl ⟨e, ?_⟩
    rw [show (200 : Int32) = nI 200 from rfl, hd 200 (by omega)]
    exact k
  · refine Or.inr ⟨j, hj, e, ?_, fun q => ?_⟩
    · rw [hd j hj]; exact k1
    · rw [hd (j - 1) (by omega)]; exact k2 q
/-- discarding -/
theorem dc_k {n j : Nat} (hn : n ≤ 20) (e : z 4 0 = nI n) (hj : j < n) : s_X11_discard_k (nI j) z = 0 := by
  unfold s_X11_discard_k
  rw [has_yes e hn hj]
  rfl
theorem dc_q {n j : Nat} (hn : n ≤ 20) (e : z 4 0 = nI n) (hj : j < n) : qDisc (nI j) z = qSwing (nI j) 0 z := by
  rw [(sw_n e hn hj).1]
  refine (an_k0 (dc_k hn e hj)).trans ?_
  unfold s_X11_discard_r s_X8_number_r
  rw [has_yes e hn hj, show tn (nI j) = j from nI_clamp (by omega)]
  rfl
theorem dc_n {n j : Nat} (hn : n ≤ 20) (e : z 4 0 = nI n) (hj : j < n) : qAbout 16 (s_X11_discard_z (nI j) z) = qAbout 16 z - 1 := by
  show s_X11_discard_z (nI j) z 4 0 = z 4 0 - 1
  rw [(disc_z hn e hj).1, upd_at, e]
  exact (pk_sub (a := n) (b := 1) (by omega)).symm
theorem dc_s {n j : Nat} (hn : n ≤ 20) (e : z 4 0 = nI n) (hj : j < n) (h1 : ¬ nI j + 1 = nI n) : qSwing (nI j) 4 (s_X11_discard_z (nI j) z) = (if nI n ≤ nI j + 1 then (0 : Int32) else qSwing (nI j + 1) 4 z) := by
  have e1 : nI j + 1 = nI (j + 1) := nI_add j 1
  rw [e1] at h1 ⊢
  have h2 : j + 1 < n := by
    rcases Nat.lt_or_ge (j + 1) n with k | k
    · exact k
    · exact absurd (congrArg nI (show j + 1 = n by omega)) h1
  have c : ¬ nI n ≤ nI (j + 1) := fun q => absurd ((nI_leI (by omega) (by omega)).mp q) (by omega)
  rw [if_neg c, (sw_n e hn h2).2.2.2]
  obtain ⟨q4, -, -, -, q8⟩ := disc_z hn e hj
  have e2 : s_X11_discard_z (nI j) z 4 0 = nI (n - 1) := by rw [q4, upd_at]
  rw [(sw_n e2 (by omega) (by omega)).2.2.2, q8]
  exact if_pos ⟨Nat.le_refl _, by omega⟩
end HND
/-! ===== a trial begun, ticks, and taken back ===== -/
section TRI
variable {z : Zs} {B : Int} {r m n : Nat}
theorem tr_ok (c17 : ¬ qAbout 17 z ≤ 0) (c18 : ¬ 8 ≤ qAbout 18 z) (hr : r < 4) : s_X11_tryRule_k (nI r) z = 0 := by
  unfold s_X11_tryRule_k
  rw [rule_ok hr, if_neg (show ¬ (1 : Int32) = 0 by decide), cb_yes c18 c17]
  rfl
/-- what a trial leaves, m ticks on, and taken back -/
theorem tr_all (h : GB B z) (h0 : 0 ≤ B) (hB : B ≤ 9000) (c17 : ¬ qAbout 17 z ≤ 0) (c18 : ¬ 8 ≤ qAbout 18 z) (hr : r < 4) (h1 : 1 ≤ m) (h2 : m ≤ 200) :
    GZ B (s_X11_tryRule_z (nI r) z) ∧ qRule (nI r) z = qProp (nI r) 0 z ∧ qAbout 8 (s_X11_tryRule_z (nI r) z) = qProp (nI r) 0 z ∧ qAbout 9 (s_X11_tryRule_z (nI r) z) = qProp (nI r) 1 z ∧ qAbout 10 (s_X11_tryRule_z (nI r) z) = qProp (nI r) 2 z ∧ qAbout 11 (s_X11_tryRule_z (nI r) z) = 2 ∧ qAbout 18 (s_X11_tryRule_z (nI r) z) = qAbout 18 z + 1 ∧
    qAhead (nI m) 4 (s_X11_tryRule_z (nI r) z) = qOut (nI r) (nI m) 4 z ∧ qTick (nI m) (s_X11_tryRule_z (nI r) z) = qOut (nI r) (nI m) 0 z ∧ GZ (B + 200) (s_X11_tick_z (nI m) (s_X11_tryRule_z (nI r) z)) ∧ s_X11_takeBack_k (s_X11_tick_z (nI m) (s_X11_tryRule_z (nI r) z)) = 0 ∧ GZ (B + 200) (s_X11_takeBack_z (s_X11_tick_z (nI m) (s_X11_tryRule_z (nI r) z))) ∧ qTake (s_X11_tick_z (nI m) (s_X11_tryRule_z (nI r) z)) = qAbout 18 z ∧
    (∀ j, j = 3 ∨ j = 4 ∨ j = 5 ∨ j = 6 → s_X11_takeBack_z (s_X11_tick_z (nI m) (s_X11_tryRule_z (nI r) z)) 3 j = z 3 j) ∧ qAbout 14 (s_X11_takeBack_z (s_X11_tick_z (nI m) (s_X11_tryRule_z (nI r) z))) = (if qAbout 11 z = 1 then (1 : Int32) else 0) := by
  have hk := tr_ok (r := r) c17 c18 hr
  obtain ⟨qr, qc, hg, n, hn, e⟩ := rule_h h.1 hk
  have hZ := rule_GZ h.1 (by omega) hk
  have eU := rule_U qr qc
  obtain ⟨o0, o1⟩ := op_v e hn
  rw [o0, o1] at eU
  have tkm : s_X11_tick_z (nI m) (s_X11_tryRule_z (nI r) z) = uT (upd (z 9) 0 (nI (n + 1))) (upd (upd (upd (upd (z 10) (4 * n) (z 3 3)) (4 * n + 1) (z 3 4)) (4 * n + 2) (z 3 5)) (4 * n + 3) (z 3 6)) (tzF (s_X7_follow_z (nI r) z) m) := by
    rw [tick_n h1 h2, eU]
    exact it_U m
  have hF : GZ B (s_X7_follow_z (nI r) z) := fo_GZ h.1 (by omega) hg
  have Z3 : ∀ j, s_X11_tryRule_z (nI r) z 3 j = s_X7_follow_z (nI r) z 3 j := fun j => by rw [eU]; rfl
  have p3 : s_X11_tryRule_z (nI r) z 3 3 = qProp (nI r) 0 z := by
    rw [Z3, fo_3 3 (by decide) (by decide) (by decide) (by decide), qp_v hr (by decide) (by decide)]
    rfl
  have p4 : s_X11_tryRule_z (nI r) z 3 4 = qProp (nI r) 1 z := by
    rw [Z3, fo_3 4 (by decide) (by decide) (by decide) (by decide), qp_v hr (by decide) (by decide)]
    rfl
  have p5 : s_X11_tryRule_z (nI r) z 3 5 = qProp (nI r) 2 z := by
    rw [Z3, fo_3 5 (by decide) (by decide) (by decide) (by decide), qp_v hr (by decide) (by decide)]
    rfl
  have p6 : s_X11_tryRule_z (nI r) z 3 6 = 2 := by rw [Z3]; exact fo_6
  have p9 : s_X11_tryRule_z (nI r) z 9 0 = nI (n + 1) := by rw [eU]; exact (show upd (z 9) 0 (nI (n + 1)) 0 = nI (n + 1) from upd_at _ _ _)
  have hT : GZ (B + 200) (s_X11_tick_z (nI m) (s_X11_tryRule_z (nI r) z)) := by
    rw [tick_n h1 h2]
    exact (it_GZ hZ (by omega) m (by omega)).mono (by omega)
  generalize hW : s_X11_tick_z (nI m) (s_X11_tryRule_z (nI r) z) = W at tkm hT ⊢
  have w9 : W 9 = upd (z 9) 0 (nI (n + 1)) := by rw [tkm]; rfl
  have w10 : W 10 = upd (upd (upd (upd (z 10) (4 * n) (z 3 3)) (4 * n + 1) (z 3 4)) (4 * n + 2) (z 3 5)) (4 * n + 3) (z 3 6) := by rw [tkm]; rfl
  have w90 : W 9 0 = nI (n + 1) := by rw [w9, upd_at]
  have hk2 : s_X11_takeBack_k W = 0 := by
    unfold s_X11_takeBack_k
    rw [w90]
    exact if_neg (fun q => absurd ((nI_z (t := n + 1) (by omega)).mp q) (by omega))
  have n9 : n + 1 - 1 = n := by omega
  have eE : s_X11_takeBack_z W = s_X7_changeMode_z (z 3 6) (zU (zU W 3 (upd (upd (upd (W 3) 3 (z 3 3)) 4 (z 3 4)) 5 (z 3 5))) 9 (upd (W 9) 0 (nI n))) := by
    rw [take_eq, end_z (n := n + 1) (by omega) w90 (by omega), n9, w10]
    rw [upd_ne (j := 4 * n) (by omega), upd_ne (j := 4 * n) (by omega), upd_ne (j := 4 * n) (by omega), upd_at, upd_ne (j := 4 * n + 1) (by omega), upd_ne (j := 4 * n + 1) (by omega), upd_at, upd_ne (j := 4 * n + 2) (by omega), upd_at, upd_at]
  have md : md3 (z 3 6) := h.1.2.2.1.2.2.1
  have w36 : W 3 6 = 2 := by
    have : ∀ k : Nat, tzF (s_X7_follow_z (nI r) z) k 3 6 = 2 := fun k => by
      induction k with
      | zero => exact fo_6
      | succ k ih => exact (po_mode (z := tzF (s_X7_follow_z (nI r) z) k)).trans ih
    rw [tkm]
    exact this m
  have w37 : W 3 7 = 0 := hT.2.2.1.2.2.2.2.1 (by rw [w36]; decide)
  refine ⟨hZ, (an_k0 hk).trans p3, p3, p4, p5, p6, ?_, ?_, ?_, hT, hk2, take_GZ hT hk2, ?_, ?_, ?_⟩
  · rw [ab_18, ab_18, p9, e]
    exact (nI_add n 1).symm
  · rw [ou_of hr h1 h2 (by decide), ou_yes h.1 hg, (ahead_v (z := s_X11_tryRule_z (nI r) z) h2).2.2.2.2, eU, fc_U, fo_v4 h2]
  · rw [ou_of hr h1 h2 (by decide), ou_yes h.1 hg, fo_v0 h2]
    refine (an_k0 (tick_k h1 h2)).trans ?_
    unfold s_X11_tick_r
    rw [pass_eq (by rw [ticks_ok h1 h2]; decide), show tn (nI m) = m from nI_clamp (by omega), eU, it_U]
    rfl
  · refine (an_k0 hk2).trans ?_
    show s_X11_takeBack_z W 9 0 = z 9 0
    rw [eE, e]
    exact (show upd (W 9) 0 (nI n) 0 = nI n from upd_at _ _ _)
  · intro j hj
    rw [eE]
    rcases hj with rfl | rfl | rfl | rfl
    · rw [cm_3 md (by decide) (by decide) (by decide) (by decide)]; rfl
    · rw [cm_3 md (by decide) (by decide) (by decide) (by decide)]; rfl
    · rw [cm_3 md (by decide) (by decide) (by decide) (by decide)]; rfl
    · exact cm_6 md
  · show (if s_X11_takeBack_z W 3 7 = 0 then (0 : Int32) else 1) = (if z 3 6 = 1 then (1 : Int32) else 0)
    have c7 := cm_7 (z := zU (zU W 3 (upd (upd (upd (W 3) 3 (z 3 3)) 4 (z 3 4)) 5 (z 3 5))) 9 (upd (W 9) 0 (nI n))) md (show ¬ W 3 6 = 1 by rw [w36]; decide) w37
    rw [eE, c7]
    by_cases c : z 3 6 = 1
    · rw [if_pos c]; rfl
    · rw [if_neg c]; rfl
end TRI

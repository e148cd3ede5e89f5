section TICK3
variable {z : Nat → Nat → Int32} {f : Nat → Int32} {N : Nat}
theorem hi_eq {a s x8 c23 : Int32} (hl : -9999 ≤ a) (h0 : s = 0 → x8 = -9999) (h1 : ¬ s = 0 → x8 = c23) : (if x8 < a then a else x8) = (if s = 0 then a else (if a ≤ c23 then c23 else a)) := by
  by_cases q : s = 0
  · rw [h0 q, if_pos q]
    by_cases q2 : -9999 < a
    · rw [if_pos q2]
    · rw [if_neg q2]
      exact Int32.le_antisymm hl (Int32.not_lt.mp q2)
  · rw [h1 q, if_neg q]
    by_cases q2 : c23 < a
    · rw [if_pos q2, if_neg (Int32.not_le.mpr q2)]
    · rw [if_neg q2, if_pos (Int32.not_lt.mp q2)]
theorem lo_eq {a s x9 c24 : Int32} (hl : a ≤ 9999) (h0 : s = 0 → x9 = 9999) (h1 : ¬ s = 0 → x9 = c24) : (if a < x9 then a else x9) = (if s = 0 then a else (if c24 ≤ a then c24 else a)) := by
  by_cases q : s = 0
  · rw [h0 q, if_pos q]
    by_cases q2 : a < 9999
    · rw [if_pos q2]
    · rw [if_neg q2]
      exact Int32.le_antisymm (Int32.not_lt.mp q2) hl
  · rw [h1 q, if_neg q]
    by_cases q2 : a < c24
    · rw [if_pos q2, if_neg (Int32.not_le.mpr q2)]
    · rw [if_neg q2, if_pos (Int32.not_lt.mp q2)]
theorem add1_ne0 {x : Int32} {s : Nat} (h : x = nI s) (hs : s + 1 < 2147483648) : ¬ x + 1 = 0 := by
  rw [h, nI_1]
  intro h9
  have h8 := congrArg Int32.toNatClampNeg h9
  rw [nI_clamp (by omega)] at h8
  exact absurd h8 (Nat.succ_ne_zero s)
theorem tick_rel (h : RZ N z f) (hN : N + 1 < 2147483648) : RZ (N + 1) (s_X7_passOne_z z) (s_X12_tickOn_w0 f) := by
  have hP := tick_P h
  have hC := tick_C h
  have hT := tick_T h
  have hA := tick_A h
  have hI := tick_I h
  obtain ⟨-, o2, o3, -⟩ := out_rel h
  obtain ⟨⟨p0, -, p6, -⟩, ⟨⟨q0, -⟩, q6, -⟩, ⟨w0, w1, w2, w3⟩, -, -, ⟨-, ⟨-, n16, -⟩, ⟨-, -, c21⟩, -, ⟨s, hs, e22⟩, -⟩⟩ := id h
  obtain ⟨en, hn⟩ := in_tn n16 (by decide)
  have em : poC z 6 = f 11 := (o3 6 (by decide)).trans q6
  have es : poC z 0 = f 5 := (o3 0 (by decide)).trans q0
  have ea : poP z 5 = pgC f 12 := hP.1.2.2.1
  have L : ∀ j, j < 25 → j ≠ 12 → j ≠ 13 → j ≠ 14 → j ≠ 15 → j ≠ 18 → j ≠ 19 → j ≠ 20 → pgC f j = f j := fun j h0 h1 h2 h3 h4 h5 h6 h7 => pgC_low h h0 h1 h2 h3 h4 h5 h6 h7
  have L5 := L 5 (by decide) (by decide) (by decide) (by decide) (by decide) (by decide) (by decide) (by decide)
  have L11 := L 11 (by decide) (by decide) (by decide) (by decide) (by decide) (by decide) (by decide) (by decide)
  have L16 := L 16 (by decide) (by decide) (by decide) (by decide) (by decide) (by decide) (by decide) (by decide)
  have L21 := L 21 (by decide) (by decide) (by decide) (by decide) (by decide) (by decide) (by decide) (by decide)
  have L22 := L 22 (by decide) (by decide) (by decide) (by decide) (by decide) (by decide) (by decide) (by decide)
  have L23 := L 23 (by decide) (by decide) (by decide) (by decide) (by decide) (by decide) (by decide) (by decide)
  have L24 := L 24 (by decide) (by decide) (by decide) (by decide) (by decide) (by decide) (by decide) (by decide)
  have L13 : z 0 0 + 1 = pgC f 13 := hP.1.1
  have hSw : ∀ j, j < tn (f 16) → z 5 j = pgC f (42 + 4 * j) ∧ z 6 j = pgC f (42 + 4 * j + 1) ∧ z 7 j = pgC f (42 + 4 * j + 2) ∧ z 8 j = pgC f (42 + 4 * j + 3) := fun j hj => by
    rw [pgC_high h (by omega), pgC_high h (by omega), pgC_high h (by omega), pgC_high h (by omega)]
    exact w2 j hj
  have ew : s_X12_warm_w0 (tkB (tkA f) (tkR f)) 11 = f 11 := by
    have e : s_X12_warm_w0 (tkB (tkA f) (tkR f)) 11 = tkB (tkA f) (tkR f) 11 := by
      unfold s_X12_warm_w0
      exact upd_ne (by decide)
    rw [e, tkB_keep (by decide) (by decide), tkA_keep (by decide) (by decide) (by decide) (by decide)]
  by_cases c : f 11 = 1
  · -- the relay's mode: swings are looked for
    have e1 : s_X12_tickOn_w0 f = s_X12_cross_w0 (f 12) (pgC f) := by rw [tick_def, ew, if_pos c]
    have c' : poC z 6 = 1 := em.trans c
    generalize hi9 : pgC f = C at *
    have ha := hP.2
    obtain ⟨hi, ehi⟩ : ∃ q : Int32, q = (if z 4 8 < C 12 then C 12 else z 4 8) := ⟨_, rfl⟩
    obtain ⟨lo, elo⟩ : ∃ q : Int32, q = (if C 12 < z 4 9 then C 12 else z 4 9) := ⟨_, rfl⟩
    obtain ⟨X, eX⟩ : ∃ q : Nat → Int32, q = upd (upd (z 4) 8 hi) 9 lo := ⟨_, rfl⟩
    obtain ⟨Q, eQ⟩ : ∃ q : Nat → Int32, q = crA C := ⟨_, rfl⟩
    have hQ : ∀ j, j ≠ 22 → j ≠ 23 → j ≠ 24 → Q j = C j := fun j h1 h2 h3 => by rw [eQ]; exact crA_keep h1 h2 h3
    have hQ1 : C 21 = 1 → Q 22 = C 22 + 1 ∧ Q 23 = hi ∧ Q 24 = lo := fun h9 => by
      have hG := (w3 (L21.symm.trans h9)).2.2
      have e := eQ
      unfold crA at e
      rw [if_pos h9] at e
      subst e
      refine ⟨rfl, ?_, ?_⟩
      · show (if C 22 = 0 then C 12 else if C 12 ≤ C 23 then C 23 else C 12) = hi
        rw [ehi]
        exact (hi_eq ha.1 (fun q => (hG.1 (L22.symm.trans q)).1) (fun q => ((hG.2 (fun q9 => q (L22.trans q9))).1).trans L23.symm)).symm
      · show (if C 22 = 0 then C 12 else if C 24 ≤ C 12 then C 24 else C 12) = lo
        rw [elo]
        exact (lo_eq ha.2 (fun q => (hG.1 (L22.symm.trans q)).2) (fun q => ((hG.2 (fun q9 => q (L22.trans q9))).2).trans L24.symm)).symm
    have hIQ : rlI (N + 1) Q := by
      obtain ⟨i1, i2, i3, i4, i5, i6⟩ := hI
      have g : ∃ s, s ≤ N + 1 ∧ Q 22 = nI s := by
        by_cases q : C 21 = 1
        · refine ⟨s + 1, by omega, ?_⟩
          rw [(hQ1 q).1, L22, e22, nI_1]
        · refine ⟨s, by omega, ?_⟩
          have e : Q = C := by rw [eQ]; exact if_neg q
          rw [e, L22, e22]
      unfold rlI
      rw [hQ 0 (by decide) (by decide) (by decide), hQ 1 (by decide) (by decide) (by decide), hQ 2 (by decide) (by decide) (by decide), hQ 3 (by decide) (by decide) (by decide), hQ 4 (by decide) (by decide) (by decide), hQ 12 (by decide) (by decide) (by decide), hQ 11 (by decide) (by decide) (by decide), hQ 16 (by decide) (by decide) (by decide), hQ 17 (by decide) (by decide) (by decide), hQ 14 (by decide) (by decide) (by decide), hQ 19 (by decide) (by decide) (by decide), hQ 21 (by decide) (by decide) (by decide)]
      exact ⟨i1, i2, i3, fun k hk => by rw [hQ (25 + k) (by omega) (by omega) (by omega)]; exact i4 k hk, g, fun t ht => by rw [hQ (122 + 4 * t + 3) (by omega) (by omega) (by omega)]; exact i6 t ht⟩
    have x6 : z 4 6 = C 21 := w1.trans L21.symm
    have Q16 := hQ 16 (by decide) (by decide) (by decide)
    have Q21 := hQ 21 (by decide) (by decide) (by decide)
    have z4 : s_X7_passOne_z z 4 = s_X8_watch_w0 (z 1 5) (C 12) (f 5) (z 0 0 + 1) (z 4) := by rw [po_4, if_pos c', ea, es]
    have z5 : s_X7_passOne_z z 5 = s_X8_watch_w1 (z 1 5) (C 12) (f 5) (z 0 0 + 1) (z 4) (z 5) := by rw [po_5, if_pos c', ea, es]
    have z6 : s_X7_passOne_z z 6 = s_X8_watch_w2 (z 1 5) (C 12) (f 5) (z 4) (z 6) := by rw [po_6, if_pos c', ea, es]
    have z7 : s_X7_passOne_z z 7 = s_X8_watch_w3 (z 1 5) (C 12) (f 5) (z 4) (z 7) := by rw [po_7, if_pos c', ea, es]
    have z8 : s_X7_passOne_z z 8 = s_X8_watch_w4 (z 1 5) (C 12) (f 5) (z 0 0 + 1) (z 4) (z 8) := by rw [po_8, if_pos c', ea, es]
    have z11 : s_X7_passOne_z z 11 = (if s_X8_watch_r (z 1 5) (C 12) (f 5) = 0 then ztk z 11 else upd (ztk z 11) 4 (ztk z 11 4 + 1)) := by rw [po_11, if_pos c', ea, es]
    have xX : ∀ j, j ≠ 8 → j ≠ 9 → X j = z 4 j := fun j h1 h2 => by rw [eX, upd_ne h2, upd_ne h1]
    by_cases k : f 5 ≤ f 12 ∨ C 12 < f 5
    · -- no crossing
      have k0 : (f 5 ≤ z 1 5) ∨ (¬ f 5 ≤ z 1 5 ∧ ¬ f 5 ≤ C 12) := by
        rw [p6]
        rcases k with k | k
        · exact Or.inl k
        · by_cases q : f 5 ≤ f 12
          · exact Or.inl q
          · exact Or.inr ⟨q, Int32.not_le.mpr k⟩
      have e2 : s_X12_cross_w0 (f 12) C = Q := by
        rw [cross_def, ← eQ, hQ 5 (by decide) (by decide) (by decide), hQ 12 (by decide) (by decide) (by decide), L5]
        rcases k with k | k
        · rw [if_pos k]
        · by_cases q : f 5 ≤ f 12
          · rw [if_pos q]
          · rw [if_neg q, if_pos k]
      have y4 : s_X7_passOne_z z 4 = X := by
        rw [z4, eX, ehi, elo]
        unfold s_X8_watch_w0
        rcases k0 with q | ⟨q, q2⟩
        · simp only [if_pos q]
        · simp only [if_neg q, if_neg q2]
      have y5 : s_X7_passOne_z z 5 = z 5 := by
        rw [z5]
        unfold s_X8_watch_w1
        rcases k0 with q | ⟨q, q2⟩
        · simp only [if_pos q]
        · simp only [if_neg q, if_neg q2]
      have y6 : s_X7_passOne_z z 6 = z 6 := by
        rw [z6]
        unfold s_X8_watch_w2
        rcases k0 with q | ⟨q, q2⟩
        · simp only [if_pos q]
        · simp only [if_neg q, if_neg q2]
      have y7 : s_X7_passOne_z z 7 = z 7 := by
        rw [z7]
        unfold s_X8_watch_w3
        rcases k0 with q | ⟨q, q2⟩
        · simp only [if_pos q]
        · simp only [if_neg q, if_neg q2]
      have y8 : s_X7_passOne_z z 8 = z 8 := by
        rw [z8]
        unfold s_X8_watch_w4
        rcases k0 with q | ⟨q, q2⟩
        · simp only [if_pos q]
        · simp only [if_neg q, if_neg q2]
      have y11 : s_X7_passOne_z z 11 = ztk z 11 := by
        rw [z11]
        refine if_pos ?_
        unfold s_X8_watch_r
        rcases k0 with q | ⟨q, q2⟩
        · rw [if_pos q]
        · rw [if_neg q, if_neg q2]
      rw [e1, e2]
      refine ⟨hP.1.cong rfl rfl rfl (fun j hj => hQ j (by omega) (by omega) (by omega)), hC.cong rfl (fun j hj => hQ j (by omega) (by omega) (by omega)), ⟨?_, ?_, ?_, fun h9 => ?_⟩, hT.cong rfl rfl (fun j hj => hQ j (by omega) (by omega) (by omega)), hA.cong y11 rfl (fun j hj => hQ j (by omega) (by omega) (by omega)), hIQ⟩
      · rw [y4, xX 0 (by decide) (by decide), Q16, L16]
        exact w0
      · rw [y4, xX 6 (by decide) (by decide), Q21]
        exact x6
      · intro j hj
        rw [Q16, L16] at hj
        rw [y5, y6, y7, y8, hQ (42 + 4 * j) (by omega) (by omega) (by omega), hQ (42 + 4 * j + 1) (by omega) (by omega) (by omega), hQ (42 + 4 * j + 2) (by omega) (by omega) (by omega), hQ (42 + 4 * j + 3) (by omega) (by omega) (by omega)]
        exact hSw j hj
      · have h8 : C 21 = 1 := Q21.symm.trans h9
        obtain ⟨g1, g2, g3⟩ := hQ1 h8
        have hG := w3 (L21.symm.trans h8)
        refine ⟨?_, ?_, fun h7 => absurd ?_ (add1_ne0 e22 (by omega)), fun _ => ⟨?_, ?_⟩⟩
        · rw [hQ 11 (by decide) (by decide) (by decide), L11]
          exact c
        · rw [y4, xX 7 (by decide) (by decide), g1, L22, ← hG.2.1]
          show z 0 0 + 1 - z 4 7 = z 0 0 - z 4 7 + 1
          rw [Int32.sub_eq_add_neg, Int32.sub_eq_add_neg, Int32.add_assoc, Int32.add_comm 1, ← Int32.add_assoc]
        · rw [← L22, ← g1]
          exact h7
        · rw [y4, g2, eX]
          rfl
        · rw [y4, g3, eX]
          rfl
    · -- a crossing
      have k1 : ¬ f 5 ≤ f 12 := fun q => k (Or.inl q)
      have k2 : ¬ C 12 < f 5 := fun q => k (Or.inr q)
      have k3 : f 5 ≤ C 12 := Int32.not_lt.mp k2
      have k1' : ¬ f 5 ≤ z 1 5 := by rw [p6]; exact k1
      obtain ⟨Wp, eW⟩ : ∃ q : Nat → Int32, q = upd Q 40 (Q 40 + 1) := ⟨_, rfl⟩
      obtain ⟨Sp, eS⟩ : ∃ q : Nat → Int32, q = (if Q 21 = 1 then s_X12_addSwing_w0 Wp else Wp) := ⟨_, rfl⟩
      have e2 : s_X12_cross_w0 (f 12) C = upd (upd Sp 21 1) 22 0 := by
        rw [cross_def, ← eQ, hQ 5 (by decide) (by decide) (by decide), hQ 12 (by decide) (by decide) (by decide), L5, if_neg k1, if_neg k2, eS, eW]
        rfl
      obtain ⟨V, eV⟩ : ∃ q : Nat → Int32, q = (if z 4 6 = 0 then X else s_X8_add_w0 X) := ⟨_, rfl⟩
      have y4 : s_X7_passOne_z z 4 = upd (upd (upd (upd V 6 1) 7 (z 0 0 + 1)) 8 (-9999)) 9 9999 := by
        rw [z4, eV, eX, ehi, elo]
        unfold s_X8_watch_w0
        simp only [if_neg k1', if_pos k3]
      have y5 : s_X7_passOne_z z 5 = if z 4 6 = 0 then z 5 else s_X8_add_w1 (z 0 0 + 1) X (z 5) := by
        rw [z5, eX, ehi, elo]
        unfold s_X8_watch_w1
        simp only [if_neg k1', if_pos k3]
      have y6 : s_X7_passOne_z z 6 = if z 4 6 = 0 then z 6 else s_X8_add_w2 X (z 6) := by
        rw [z6, eX, ehi, elo]
        unfold s_X8_watch_w2
        simp only [if_neg k1', if_pos k3]
      have y7 : s_X7_passOne_z z 7 = if z 4 6 = 0 then z 7 else s_X8_add_w3 X (z 7) := by
        rw [z7, eX, ehi, elo]
        unfold s_X8_watch_w3
        simp only [if_neg k1', if_pos k3]
      have y8 : s_X7_passOne_z z 8 = if z 4 6 = 0 then z 8 else s_X8_add_w4 (z 0 0 + 1) X (z 8) := by
        rw [z8, eX, ehi, elo]
        unfold s_X8_watch_w4
        simp only [if_neg k1', if_pos k3]
      have y11 : s_X7_passOne_z z 11 = upd (ztk z 11) 4 (ztk z 11 4 + 1) := by
        rw [z11]
        refine if_neg ?_
        unfold s_X8_watch_r
        rw [if_neg k1', if_pos k3]
        decide
      have W16 : Wp 16 = nI (tn (f 16)) := by rw [eW, upd_ne (by decide), Q16, L16]; exact en
      have hWp : ∀ j, j ≠ 40 → Wp j = Q j := fun j hj => by rw [eW, upd_ne hj]
      have n16W : vp_in (Wp 16) 21 := by rw [W16]; exact vp_in_nI hn (by decide)
      have hSp : ∀ j, j < 42 ∨ 122 ≤ j → j ≠ 16 → Sp j = Wp j := fun j h1 h2 => by
        rw [eS]
        exact ite_P (P := fun w : Nat → Int32 => w j = Wp j) (fun _ => addS_keep h1 h2 n16W) (fun _ => rfl)
      have hF : ∀ j, (j < 40 ∨ j = 41 ∨ 122 ≤ j) → j ≠ 16 → j ≠ 21 → j ≠ 22 → j ≠ 23 → j ≠ 24 → upd (upd Sp 21 1) 22 0 j = C j := fun j h0 h1 h2 h3 h4 h5 => by
        rw [upd_ne h3, upd_ne h2, hSp j (by omega) h1, hWp j (by omega), hQ j h3 h4 h5]
      have hV : ∀ j, j ≠ 0 → V j = X j := fun j hj => by
        rw [eV]
        exact ite_P (P := fun w : Nat → Int32 => w j = X j) (fun _ => rfl) (fun _ => addX_keep hj)
      -- the swings
      have hsw : ∃ n', n' < 21 ∧ V 0 = nI n' ∧ Sp 16 = nI n' ∧ ∀ j, j < n' → s_X7_passOne_z z 5 j = Sp (42 + 4 * j) ∧ s_X7_passOne_z z 6 j = Sp (42 + 4 * j + 1) ∧ s_X7_passOne_z z 7 j = Sp (42 + 4 * j + 2) ∧ s_X7_passOne_z z 8 j = Sp (42 + 4 * j + 3) := by
        have x0 : X 0 = nI (tn (f 16)) := by rw [xX 0 (by decide) (by decide), w0]; exact en
        have hS0 : ∀ j, j < tn (f 16) → z 5 j = Wp (42 + 4 * j) ∧ z 6 j = Wp (42 + 4 * j + 1) ∧ z 7 j = Wp (42 + 4 * j + 2) ∧ z 8 j = Wp (42 + 4 * j + 3) := fun j hj => by
          rw [hWp _ (by omega), hWp _ (by omega), hWp _ (by omega), hWp _ (by omega), hQ (42 + 4 * j) (by omega) (by omega) (by omega), hQ (42 + 4 * j + 1) (by omega) (by omega) (by omega), hQ (42 + 4 * j + 2) (by omega) (by omega) (by omega), hQ (42 + 4 * j + 3) (by omega) (by omega) (by omega)]
          exact hSw j hj
        by_cases q : C 21 = 1
        · have q6' : ¬ z 4 6 = 0 := by rw [x6, q]; decide
          have q21 : Q 21 = 1 := Q21.trans q
          obtain ⟨g1, g2, g3⟩ := hQ1 q
          have hG := w3 (L21.symm.trans q)
          obtain ⟨n', hn', r1, r2, r3⟩ := add_rel (x := X) (w := Wp) (p5 := z 5) (p6 := z 6) (p7 := z 7) (p8 := z 8) (ck := z 0 0 + 1) x0 hn W16 hS0 (by
            rw [xX 7 (by decide) (by decide), hWp 22 (by decide), g1, L22, ← hG.2.1, Int32.sub_eq_add_neg, Int32.sub_eq_add_neg, Int32.add_assoc, Int32.add_comm 1, ← Int32.add_assoc]) (by rw [hWp 23 (by decide), g2, eX]; rfl) (by rw [hWp 24 (by decide), g3, eX]; rfl) (by rw [hWp 13 (by decide), hQ 13 (by decide) (by decide) (by decide)]; exact L13)
          rw [eV, eS, if_neg q6', if_pos q21, y5, y6, y7, y8, if_neg q6', if_neg q6', if_neg q6', if_neg q6']
          exact ⟨n', hn', r1, r2, r3⟩
        · have q0' : C 21 = 0 := by
            rcases c21 with e | e
            · exact L21.trans e
            · exact absurd (L21.trans e) q
          have q6' : z 4 6 = 0 := x6.trans q0'
          have q21 : ¬ Q 21 = 1 := by rw [Q21]; exact q
          rw [eV, eS, if_pos q6', if_neg q21, y5, y6, y7, y8, if_pos q6', if_pos q6', if_pos q6', if_pos q6']
          exact ⟨tn (f 16), hn, x0, W16, hS0⟩
      obtain ⟨n', hn', v0, s16, hSf⟩ := hsw
      have F16 : upd (upd Sp 21 1) 22 0 16 = nI n' := by rw [upd_ne (by decide), upd_ne (by decide)]; exact s16
      have F21 : upd (upd Sp 21 1) 22 0 21 = 1 := rfl
      have F22 : upd (upd Sp 21 1) 22 0 22 = 0 := rfl
      rw [e1, e2]
      refine ⟨hP.1.cong rfl rfl rfl (fun j hj => hF j (by omega) (by omega) (by omega) (by omega) (by omega) (by omega)), hC.cong rfl (fun j hj => hF j (by omega) (by omega) (by omega) (by omega) (by omega) (by omega)), ⟨?_, ?_, ?_, fun _ => ⟨?_, ?_, fun _ => ⟨?_, ?_⟩, fun h7 => absurd rfl h7⟩⟩, hT.cong rfl rfl (fun j hj => hF j (by omega) (by omega) (by omega) (by omega) (by omega) (by omega)), ?_, ?_⟩
      · rw [y4, F16]
        exact v0
      · rw [y4]
        rfl
      · rw [F16, show tn (nI n') = n' from nI_clamp (by omega)]
        intro j hj
        rw [upd_ne (by omega), upd_ne (by omega), upd_ne (by omega), upd_ne (by omega), upd_ne (by omega), upd_ne (by omega), upd_ne (by omega), upd_ne (by omega)]
        exact hSf j hj
      · rw [hF 11 (by omega) (by decide) (by decide) (by decide) (by decide) (by decide), L11]
        exact c
      · rw [y4, F22]
        show z 0 0 + 1 - (z 0 0 + 1) = 0
        exact gap_0.mpr rfl
      · rw [y4]
        rfl
      · rw [y4]
        rfl
      · obtain ⟨g1, g2, g3, g4, g5, g6, g7, g8⟩ := hA
        have F40 : upd (upd Sp 21 1) 22 0 40 = C 40 + 1 := by
          rw [upd_ne (by decide), upd_ne (by decide), hSp 40 (by omega) (by decide), eW, pk_us, hQ 40 (by decide) (by decide) (by decide)]
        unfold rlA
        rw [y11, F40, hF 18 (by omega) (by decide) (by decide) (by decide) (by decide) (by decide), hF 38 (by omega) (by decide) (by decide) (by decide) (by decide) (by decide), hF 39 (by omega) (by decide) (by decide) (by decide) (by decide) (by decide), hF 41 (by omega) (by decide) (by decide) (by decide) (by decide) (by decide), hF 35 (by omega) (by decide) (by decide) (by decide) (by decide) (by decide), hF 36 (by omega) (by decide) (by decide) (by decide) (by decide) (by decide), hF 37 (by omega) (by decide) (by decide) (by decide) (by decide) (by decide)]
        refine ⟨g1, g2, g3, ?_, g5, g6, g7, g8⟩
        show ztk z 11 4 + 1 = C 40 + 1
        rw [g4]
      · obtain ⟨⟨a1, a2, a3, a4, a5, a6⟩, ⟨b1, b2, b3⟩, ⟨c1, c2, c3⟩, d1, d2, d3⟩ := hI
        unfold rlI
        rw [F16, F21, F22, hF 0 (by omega) (by decide) (by decide) (by decide) (by decide) (by decide), hF 1 (by omega) (by decide) (by decide) (by decide) (by decide) (by decide), hF 2 (by omega) (by decide) (by decide) (by decide) (by decide) (by decide), hF 3 (by omega) (by decide) (by decide) (by decide) (by decide) (by decide), hF 4 (by omega) (by decide) (by decide) (by decide) (by decide) (by decide), hF 12 (by omega) (by decide) (by decide) (by decide) (by decide) (by decide), hF 11 (by omega) (by decide) (by decide) (by decide) (by decide) (by decide), hF 17 (by omega) (by decide) (by decide) (by decide) (by decide) (by decide), hF 14 (by omega) (by decide) (by decide) (by decide) (by decide) (by decide), hF 19 (by omega) (by decide) (by decide) (by decide) (by decide) (by decide)]
        exact ⟨⟨a1, a2, a3, a4, a5, a6⟩, ⟨b1, vp_in_nI hn' (by decide), b3⟩, ⟨c1, c2, Or.inr rfl⟩, fun k hk => by rw [hF (25 + k) (by omega) (by omega) (by omega) (by omega) (by omega) (by omega)]; exact d1 k hk, ⟨0, by omega, rfl⟩, fun t ht => by rw [hF (122 + 4 * t + 3) (by omega) (by omega) (by omega) (by omega) (by omega) (by omega)]; exact d3 t ht⟩
  · -- another mode
    have e1 : s_X12_tickOn_w0 f = pgC f := by rw [tick_def, ew, if_neg c]
    have c' : ¬ poC z 6 = 1 := by rw [em]; exact c
    have k4 : s_X7_passOne_z z 4 = z 4 := by rw [po_4, if_neg c']
    have k5 : s_X7_passOne_z z 5 = z 5 := by rw [po_5, if_neg c']
    have k6 : s_X7_passOne_z z 6 = z 6 := by rw [po_6, if_neg c']
    have k7 : s_X7_passOne_z z 7 = z 7 := by rw [po_7, if_neg c']
    have k8 : s_X7_passOne_z z 8 = z 8 := by rw [po_8, if_neg c']
    have k11 : s_X7_passOne_z z 11 = ztk z 11 := by rw [po_11, if_neg c']
    rw [e1]
    refine ⟨hP.1.cong rfl rfl rfl (fun _ _ => rfl), hC.cong rfl (fun _ _ => rfl), ⟨?_, ?_, ?_, fun h9 => absurd (w3 (L21.symm.trans h9)).1 c⟩, hT.cong rfl rfl (fun _ _ => rfl), hA.cong k11 rfl (fun _ _ => rfl), hI.mono (by omega)⟩
    · rw [k4, L16]
      exact w0
    · rw [k4, L21]
      exact w1
    · rw [L16]
      intro j hj
      rw [k5, k6, k7, k8]
      exact hSw j hj
theorem ticks_rel (h : RZ N z f) : ∀ k, N + k < 2147483648 → RZ (N + k) (itF s_X7_passOne_z k z) (itF s_X12_tickOn_w0 k f)
  | 0, _ => h
  | k + 1, hk => tick_rel (ticks_rel h k (by omega)) (by omega)
end TICK3

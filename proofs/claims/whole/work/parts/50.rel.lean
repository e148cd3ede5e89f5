/-! ===== a State of the class and a page of the reference ===== -/
def bI (x a b : Int32) : Prop := a ≤ x ∧ x ≤ b
def rlP (z : Nat → Nat → Int32) (f : Nat → Int32) : Prop := z 0 0 = f 13 ∧ (z 1 0 = f 0 ∧ z 1 1 = f 1 ∧ z 1 2 = f 2 ∧ z 1 3 = f 3 ∧ z 1 4 = f 4) ∧ z 1 5 = f 12 ∧ vp_in (z 1 7) 10 ∧ ∀ k, k < 10 → z 2 ((tn (z 1 7) + (10 - k)) % 10) = f (25 + k)
def rlC (z : Nat → Nat → Int32) (f : Nat → Int32) : Prop := (z 3 0 = f 5 ∧ z 3 1 = f 6 ∧ z 3 2 = f 7 ∧ z 3 3 = f 8 ∧ z 3 4 = f 9 ∧ z 3 5 = f 10) ∧ z 3 6 = f 11 ∧ z 3 7 = f 14 ∧ z 3 8 = f 15 ∧ z 3 9 = f 20 ∧ z 3 10 = f 19
/-- the swing that goes on -/
def rlG (z : Nat → Nat → Int32) (f : Nat → Int32) : Prop := f 11 = 1 ∧ z 0 0 - z 4 7 = f 22 ∧ (f 22 = 0 → z 4 8 = -9999 ∧ z 4 9 = 9999) ∧ (¬ f 22 = 0 → z 4 8 = f 23 ∧ z 4 9 = f 24)
def rlS (z : Nat → Nat → Int32) (f : Nat → Int32) (n : Nat) : Prop := ∀ j, j < n → z 5 j = f (42 + 4 * j) ∧ z 6 j = f (42 + 4 * j + 1) ∧ z 7 j = f (42 + 4 * j + 2) ∧ z 8 j = f (42 + 4 * j + 3)
def rlW (z : Nat → Nat → Int32) (f : Nat → Int32) : Prop := z 4 0 = f 16 ∧ z 4 6 = f 21 ∧ rlS z f (tn (f 16)) ∧ (f 21 = 1 → rlG z f)
def rlT (z : Nat → Nat → Int32) (f : Nat → Int32) : Prop := z 9 0 = f 17 ∧ ∀ t, t < 4 * tn (f 17) → z 10 t = f (122 + t)
def rlA (z : Nat → Nat → Int32) (f : Nat → Int32) : Prop := z 11 1 = f 18 ∧ z 11 2 = f 38 ∧ z 11 3 = f 39 ∧ z 11 4 = f 40 ∧ z 11 5 = f 41 ∧ z 12 0 = f 35 ∧ z 12 1 = f 36 ∧ z 12 2 = f 37
/-- what the page's numbers keep -/
def rlI (N : Nat) (f : Nat → Int32) : Prop := (bI (f 0) 0 20 ∧ bI (f 1) 1 50 ∧ vp_in (f 2) 10 ∧ bI (f 3) (-99) 99 ∧ bI (f 4) 0 99 ∧ bI (f 12) (-9999) 9999) ∧ (vp_in (f 11) 3 ∧ vp_in (f 16) 21 ∧ vp_in (f 17) 9) ∧ ((f 14 = 0 ∨ f 14 = 1) ∧ (f 19 = 0 ∨ f 19 = 1) ∧ (f 21 = 0 ∨ f 21 = 1)) ∧ (∀ k, k < 10 → bI (f (25 + k)) 0 99) ∧ (∃ s, s ≤ N ∧ f 22 = nI s) ∧ ∀ t, t < tn (f 17) → vp_in (f (122 + 4 * t + 3)) 3
def RZ (N : Nat) (z : Nat → Nat → Int32) (f : Nat → Int32) : Prop := rlP z f ∧ rlC z f ∧ rlW z f ∧ rlT z f ∧ rlA z f ∧ rlI N f
section CONG
variable {z z' : Nat → Nat → Int32} {f f' : Nat → Int32} {N M n : Nat}
theorem rlP.cong (h : rlP z f) (h0 : z' 0 0 = z 0 0) (h1 : z' 1 = z 1) (h2 : z' 2 = z 2) (hf : ∀ j, j < 5 ∨ j = 12 ∨ j = 13 ∨ (25 ≤ j ∧ j < 35) → f' j = f j) : rlP z' f' := by
  obtain ⟨a0, ⟨a1, a2, a3, a4, a5⟩, a6, a7, a8⟩ := h
  unfold rlP
  rw [h0, h1, h2, hf 13 (by omega), hf 0 (by omega), hf 1 (by omega), hf 2 (by omega), hf 3 (by omega), hf 4 (by omega), hf 12 (by omega)]
  exact ⟨a0, ⟨a1, a2, a3, a4, a5⟩, a6, a7, fun k hk => by rw [hf (25 + k) (by omega)]; exact a8 k hk⟩
theorem rlC.cong (h : rlC z f) (h3 : z' 3 = z 3) (hf : ∀ j, (5 ≤ j ∧ j < 12) ∨ j = 14 ∨ j = 15 ∨ j = 19 ∨ j = 20 → f' j = f j) : rlC z' f' := by
  unfold rlC at h ⊢
  rw [h3, hf 5 (by omega), hf 6 (by omega), hf 7 (by omega), hf 8 (by omega), hf 9 (by omega), hf 10 (by omega), hf 11 (by omega), hf 14 (by omega), hf 15 (by omega), hf 20 (by omega), hf 19 (by omega)]
  exact h
theorem rlS.cong (h : rlS z f n) (hn : n < 21) (h5 : z' 5 = z 5) (h6 : z' 6 = z 6) (h7 : z' 7 = z 7) (h8 : z' 8 = z 8) (hf : ∀ j, 42 ≤ j ∧ j < 122 → f' j = f j) : rlS z' f' n := by
  intro j hj
  rw [h5, h6, h7, h8, hf (42 + 4 * j) (by omega), hf (42 + 4 * j + 1) (by omega), hf (42 + 4 * j + 2) (by omega), hf (42 + 4 * j + 3) (by omega)]
  exact h j hj
theorem rlG.cong (h : rlG z f) (h0 : z' 0 0 = z 0 0) (h4 : z' 4 = z 4) (hf : ∀ j, j = 11 ∨ (22 ≤ j ∧ j < 25) → f' j = f j) : rlG z' f' := by
  unfold rlG at h ⊢
  rw [h0, h4, hf 11 (by omega), hf 22 (by omega), hf 23 (by omega), hf 24 (by omega)]
  exact h
theorem rlW.cong (h : rlW z f) (hn : vp_in (f 16) 21) (h0 : z' 0 0 = z 0 0) (h4 : z' 4 = z 4) (h5 : z' 5 = z 5) (h6 : z' 6 = z 6) (h7 : z' 7 = z 7) (h8 : z' 8 = z 8) (hf : ∀ j, j = 11 ∨ j = 16 ∨ (21 ≤ j ∧ j < 25) ∨ (42 ≤ j ∧ j < 122) → f' j = f j) : rlW z' f' := by
  obtain ⟨a1, a2, a3, a4⟩ := h
  unfold rlW
  rw [h4, hf 16 (by omega), hf 21 (by omega)]
  exact ⟨a1, a2, a3.cong (in_tn hn (by decide)).2 h5 h6 h7 h8 (fun j hj => hf j (by omega)), fun h9 => (a4 h9).cong h0 h4 (fun j hj => hf j (by omega))⟩
theorem rlT.cong (h : rlT z f) (h9 : z' 9 = z 9) (h10 : z' 10 = z 10) (hf : ∀ j, j = 17 ∨ 122 ≤ j → f' j = f j) : rlT z' f' := by
  obtain ⟨a1, a2⟩ := h
  unfold rlT
  rw [h9, h10, hf 17 (by omega)]
  exact ⟨a1, fun t ht => by rw [hf (122 + t) (by omega)]; exact a2 t ht⟩
theorem rlA.cong (h : rlA z f) (h1 : z' 11 = z 11) (h2 : z' 12 = z 12) (hf : ∀ j, j = 18 ∨ (35 ≤ j ∧ j < 42) → f' j = f j) : rlA z' f' := by
  unfold rlA at h ⊢
  rw [h1, h2, hf 18 (by omega), hf 38 (by omega), hf 39 (by omega), hf 40 (by omega), hf 41 (by omega), hf 35 (by omega), hf 36 (by omega), hf 37 (by omega)]
  exact h
theorem rlI.cong (h : rlI N f) (hf : ∀ j, j < 5 ∨ j = 11 ∨ j = 12 ∨ j = 14 ∨ j = 16 ∨ j = 17 ∨ j = 19 ∨ j = 21 ∨ j = 22 ∨ (25 ≤ j ∧ j < 35) ∨ 122 ≤ j → f' j = f j) : rlI N f' := by
  obtain ⟨⟨a1, a2, a3, a4, a5, a6⟩, ⟨b1, b2, b3⟩, ⟨c1, c2, c3⟩, d1, d2, d3⟩ := h
  unfold rlI
  rw [hf 0 (by omega), hf 1 (by omega), hf 2 (by omega), hf 3 (by omega), hf 4 (by omega), hf 12 (by omega), hf 11 (by omega), hf 16 (by omega), hf 17 (by omega), hf 14 (by omega), hf 19 (by omega), hf 21 (by omega), hf 22 (by omega)]
  exact ⟨⟨a1, a2, a3, a4, a5, a6⟩, ⟨b1, b2, b3⟩, ⟨c1, c2, c3⟩, fun k hk => by rw [hf (25 + k) (by omega)]; exact d1 k hk, d2, fun t ht => by rw [hf (122 + 4 * t + 3) (by omega)]; exact d3 t ht⟩
theorem rlI.mono (h : rlI N f) (hm : N ≤ M) : rlI M f := by
  obtain ⟨a, b, c, d1, ⟨s, d2, d3⟩, d4⟩ := h
  exact ⟨a, b, c, d1, ⟨s, by omega, d3⟩, d4⟩
theorem RZ.mono (h : RZ N z f) (hm : N ≤ M) : RZ M z f := ⟨h.1, h.2.1, h.2.2.1, h.2.2.2.1, h.2.2.2.2.1, h.2.2.2.2.2.mono hm⟩
end CONG
section OPS1
variable {z : Nat → Nat → Int32} {f : Nat → Int32} {N : Nat} {a b : Int32}
theorem isModeC_in (h : ¬ s_X11_isMode_r a = 0) : vp_in a 3 := by
  unfold s_X11_isMode_r at h
  try dsimp only at h
  split at h
  · exact absurd rfl h
  · next q1 =>
    split at h
    · exact absurd rfl h
    · next q2 => exact vin6 (B := 2) (n := 2) q1 (Int32.not_lt.mp q2) rfl (by decide)
theorem inC_isMode (h : vp_in a 3) : ¬ s_X11_isMode_r a = 0 := by
  obtain ⟨j, hj, rfl⟩ := vp_in_of h (by decide)
  rcases (show j = 0 ∨ j = 1 ∨ j = 2 by omega) with rfl | rfl | rfl <;> decide
theorem modeZ_same (h : z 3 6 = a) : s_X7_changeMode_z a z = z := by
  funext i
  unfold s_X7_changeMode_z
  split
  · by_cases c : s_X11_isMode_r a = 0
    · rw [if_pos c]
    · rw [if_neg c]
      exact if_pos h.symm
  · by_cases c : s_X11_isMode_r a = 0
    · rw [if_pos c]
    · rw [if_neg c]
      exact if_pos h.symm
  · rfl
theorem modeZ_3 (h : ¬ a = z 3 6) (hm : vp_in a 3) : s_X7_changeMode_z a z 3 = s_X1_enter_w0 a (z 3) := (if_neg (inC_isMode hm)).trans (if_neg h)
theorem modeZ_4 (h : ¬ a = z 3 6) (hm : vp_in a 3) : s_X7_changeMode_z a z 4 = s_X8_breakOff_w0 (z 4) := (if_neg (inC_isMode hm)).trans (if_neg h)
theorem mode_rel (h : RZ N z f) (ha : vp_in a 3) : RZ N (s_X7_changeMode_z a z) (s_X12_modeOn_w0 a f) := by
  have h36 : z 3 6 = f 11 := h.2.1.2.1
  by_cases c : f 11 = a
  · have e2 : s_X12_modeOn_w0 a f = f := if_pos c
    rw [modeZ_same (h36.trans c), e2]
    exact h
  · obtain ⟨hP, hC, hW, hT, hA, hI⟩ := h
    have e3 := modeZ_3 (z := z) (fun q => c (h36.symm.trans q.symm)) ha
    have e4 := modeZ_4 (z := z) (fun q => c (h36.symm.trans q.symm)) ha
    have n16 := hI.2.1.2.1
    have ef : ∀ j, j ≠ 11 → j ≠ 14 → j ≠ 21 → j ≠ 22 → j ≠ 15 → j ≠ 19 → s_X12_modeOn_w0 a f j = f j := by
      intro j h1 h2 h3 h4 h5 h6
      unfold s_X12_modeOn_w0
      rw [if_neg c]
      exact ite_P (P := fun w : Nat → Int32 => w j = f j) (fun _ => by rw [upd_ne h6, upd_ne h5, upd_ne h4, upd_ne h3, upd_ne h2, upd_ne h1]) (fun _ => by rw [upd_ne h4, upd_ne h3, upd_ne h2, upd_ne h1])
    have e11 : s_X12_modeOn_w0 a f 11 = a := by
      unfold s_X12_modeOn_w0
      rw [if_neg c]
      exact ite_P (P := fun w : Nat → Int32 => w 11 = a) (fun _ => rfl) (fun _ => rfl)
    have e14 : s_X12_modeOn_w0 a f 14 = if a = 1 then 1 else 0 := by
      unfold s_X12_modeOn_w0
      rw [if_neg c]
      exact ite_P (P := fun w : Nat → Int32 => w 14 = if a = 1 then 1 else 0) (fun _ => rfl) (fun _ => rfl)
    have e21 : s_X12_modeOn_w0 a f 21 = 0 := by
      unfold s_X12_modeOn_w0
      rw [if_neg c]
      exact ite_P (P := fun w : Nat → Int32 => w 21 = 0) (fun _ => rfl) (fun _ => rfl)
    have e22 : s_X12_modeOn_w0 a f 22 = 0 := by
      unfold s_X12_modeOn_w0
      rw [if_neg c]
      exact ite_P (P := fun w : Nat → Int32 => w 22 = 0) (fun _ => rfl) (fun _ => rfl)
    have e15 : s_X12_modeOn_w0 a f 15 = if a = 2 then 0 else f 15 := by
      unfold s_X12_modeOn_w0
      rw [if_neg c]
      by_cases c2 : a = 2
      · rw [if_pos c2]
        simp only [if_pos c2]
        rfl
      · rw [if_neg c2]
        simp only [if_neg c2]
        rfl
    have e19 : s_X12_modeOn_w0 a f 19 = if a = 2 then 0 else f 19 := by
      unfold s_X12_modeOn_w0
      rw [if_neg c]
      by_cases c2 : a = 2
      · rw [if_pos c2]
        simp only [if_pos c2]
        rfl
      · rw [if_neg c2]
        simp only [if_neg c2]
        rfl
    have k3 : ∀ j, j < 6 ∨ j = 9 → s_X1_enter_w0 a (z 3) j = z 3 j := by
      intro j hj
      unfold s_X1_enter_w0
      exact ite_P (P := fun w : Nat → Int32 => w j = z 3 j) (fun _ => by rw [upd_ne (by omega), upd_ne (by omega), upd_ne (by omega), upd_ne (by omega)]) (fun _ => by rw [upd_ne (by omega), upd_ne (by omega)])
    have k36 : s_X1_enter_w0 a (z 3) 6 = a := by
      unfold s_X1_enter_w0
      exact ite_P (P := fun w : Nat → Int32 => w 6 = a) (fun _ => rfl) (fun _ => rfl)
    have k37 : s_X1_enter_w0 a (z 3) 7 = if a = 1 then 1 else 0 := by
      unfold s_X1_enter_w0
      exact ite_P (P := fun w : Nat → Int32 => w 7 = if a = 1 then 1 else 0) (fun _ => rfl) (fun _ => rfl)
    have k38 : s_X1_enter_w0 a (z 3) 8 = if a = 2 then 0 else z 3 8 := by
      unfold s_X1_enter_w0
      by_cases c2 : a = 2
      · rw [if_pos c2]
        simp only [if_pos c2]
        rfl
      · rw [if_neg c2]
        simp only [if_neg c2]
        rfl
    have k310 : s_X1_enter_w0 a (z 3) 10 = if a = 2 then 0 else z 3 10 := by
      unfold s_X1_enter_w0
      by_cases c2 : a = 2
      · rw [if_pos c2]
        simp only [if_pos c2]
        rfl
      · rw [if_neg c2]
        simp only [if_neg c2]
        rfl
    refine ⟨hP.cong rfl rfl rfl (fun j hj => ef j (by omega) (by omega) (by omega) (by omega) (by omega) (by omega)), ?_, ?_, hT.cong rfl rfl (fun j hj => ef j (by omega) (by omega) (by omega) (by omega) (by omega) (by omega)), hA.cong rfl rfl (fun j hj => ef j (by omega) (by omega) (by omega) (by omega) (by omega) (by omega)), ?_⟩
    · obtain ⟨⟨q0, q1, q2, q3, q4, q5⟩, q6, q7, q8, q9, q10⟩ := hC
      unfold rlC
      rw [e3, k3 0 (by omega), k3 1 (by omega), k3 2 (by omega), k3 3 (by omega), k3 4 (by omega), k3 5 (by omega), k36, k37, k38, k3 9 (by omega), k310, e11, e14, e15, e19, ef 5 (by omega) (by omega) (by omega) (by omega) (by omega) (by omega), ef 6 (by omega) (by omega) (by omega) (by omega) (by omega) (by omega), ef 7 (by omega) (by omega) (by omega) (by omega) (by omega) (by omega), ef 8 (by omega) (by omega) (by omega) (by omega) (by omega) (by omega), ef 9 (by omega) (by omega) (by omega) (by omega) (by omega) (by omega), ef 10 (by omega) (by omega) (by omega) (by omega) (by omega) (by omega), ef 20 (by omega) (by omega) (by omega) (by omega) (by omega) (by omega), q8, q10]
      exact ⟨⟨q0, q1, q2, q3, q4, q5⟩, rfl, rfl, rfl, q9, rfl⟩
    · obtain ⟨q0, q1, q2, q3⟩ := hW
      have d16 := ef 16 (by omega) (by omega) (by omega) (by omega) (by omega) (by omega)
      unfold rlW
      rw [e4, d16, e21]
      refine ⟨q0, rfl, q2.cong (in_tn n16 (by decide)).2 rfl rfl rfl rfl (fun j hj => ef j (by omega) (by omega) (by omega) (by omega) (by omega) (by omega)), fun h9 => absurd h9 (by decide)⟩
    · obtain ⟨⟨a1, a2, a3, a4, a5, a6⟩, ⟨b1, b2, b3⟩, ⟨c1, c2, c3⟩, d1, d2, d3⟩ := hI
      unfold rlI
      rw [e11, e14, e19, e21, e22, ef 0 (by omega) (by omega) (by omega) (by omega) (by omega) (by omega), ef 1 (by omega) (by omega) (by omega) (by omega) (by omega) (by omega), ef 2 (by omega) (by omega) (by omega) (by omega) (by omega) (by omega), ef 3 (by omega) (by omega) (by omega) (by omega) (by omega) (by omega), ef 4 (by omega) (by omega) (by omega) (by omega) (by omega) (by omega), ef 12 (by omega) (by omega) (by omega) (by omega) (by omega) (by omega), ef 16 (by omega) (by omega) (by omega) (by omega) (by omega) (by omega), ef 17 (by omega) (by omega) (by omega) (by omega) (by omega) (by omega)]
      exact ⟨⟨a1, a2, a3, a4, a5, a6⟩, ⟨ha, b2, b3⟩, ⟨by by_cases q : a = 1 <;> simp [q], by by_cases q : a = 2 <;> simp [q, c2], Or.inl rfl⟩, fun k hk => by rw [ef (25 + k) (by omega) (by omega) (by omega) (by omega) (by omega) (by omega)]; exact d1 k hk, ⟨0, by omega, rfl⟩, fun t ht => by rw [ef (122 + 4 * t + 3) (by omega) (by omega) (by omega) (by omega) (by omega) (by omega)]; exact d3 t ht⟩
/-- a setting is put -/
theorem put_rel {k : Nat} (h : RZ N z f) (ha : a = nI k) (hk : 5 ≤ k ∧ k < 11) (hs : ¬ s_X11_isSetting_r a b = 0) : RZ N (s_X7_put_z a b z) (upd f (tn a) b) := by
  have et : tn a = k := by rw [ha]; exact nI_clamp (by omega)
  obtain ⟨hP, hC, hW, hT, hA, hI⟩ := h
  have e3 : s_X7_put_z a b z 3 = s_X1_put_w0 a b (z 3) := if_neg hs
  have ef : ∀ j, j ≠ k → upd f (tn a) b j = f j := fun j hj => by rw [et]; exact upd_ne hj
  have n16 := hI.2.1.2.1
  refine ⟨hP.cong rfl rfl rfl (fun j hj => ef j (by omega)), ?_, hW.cong n16 rfl rfl rfl rfl rfl rfl (fun j hj => ef j (by omega)), hT.cong rfl rfl (fun j hj => ef j (by omega)), hA.cong rfl rfl (fun j hj => ef j (by omega)), hI.cong (fun j hj => ef j (by omega))⟩
  obtain ⟨⟨q0, q1, q2, q3, q4, q5⟩, q6⟩ := hC
  unfold rlC
  rw [e3, et]
  subst ha
  rcases (show k = 5 ∨ k = 6 ∨ k = 7 ∨ k = 8 ∨ k = 9 ∨ k = 10 by omega) with rfl | rfl | rfl | rfl | rfl | rfl
  · exact ⟨⟨rfl, q1, q2, q3, q4, q5⟩, q6⟩
  · exact ⟨⟨q0, rfl, q2, q3, q4, q5⟩, q6⟩
  · exact ⟨⟨q0, q1, rfl, q3, q4, q5⟩, q6⟩
  · exact ⟨⟨q0, q1, q2, rfl, q4, q5⟩, q6⟩
  · exact ⟨⟨q0, q1, q2, q3, rfl, q5⟩, q6⟩
  · exact ⟨⟨q0, q1, q2, q3, q4, rfl⟩, q6⟩
theorem within_eq (a b c : Int32) : s_X11_within_r a b c = s_X12_within_r a b c := rfl
theorem within_b {a b c : Int32} (h : b ≤ c) : bI (s_X12_within_r a b c) b c := by
  unfold s_X12_within_r bI
  by_cases q : b ≤ a
  · simp only [if_pos q]
    by_cases q2 : a ≤ c
    · simp only [if_pos q2]
      exact ⟨q, q2⟩
    · simp only [if_neg q2]
      exact ⟨h, Int32.le_refl _⟩
  · simp only [if_neg q]
    exact ⟨Int32.le_refl _, h⟩
theorem push_rel (h : RZ N z f) (hs : ¬ s_X11_isDisturbance_r a = 0) : RZ N (s_X7_push_z a z) (s_X12_disturbOn_w0 a f) := by
  obtain ⟨hP, hC, hW, hT, hA, hI⟩ := h
  have e1 : s_X7_push_z a z 1 = s_X3_warmBy_w0 a (z 1) := if_neg hs
  have e11 : s_X7_push_z a z 11 = upd (z 11) 5 (((z 11) 5) + 1) := if_neg hs
  have n16 := hI.2.1.2.1
  have ef : ∀ j, j ≠ 12 → j ≠ 41 → s_X12_disturbOn_w0 a f j = f j := fun j h1 h2 => by unfold s_X12_disturbOn_w0; rw [upd_ne h2, upd_ne h1]
  have e12 : s_X12_disturbOn_w0 a f 12 = s_X12_within_r ((f 12) + a) (-9999) 9999 := rfl
  have e41 : s_X12_disturbOn_w0 a f 41 = f 41 + 1 := rfl
  refine ⟨?_, hC.cong rfl (fun j hj => ef j (by omega) (by omega)), hW.cong n16 rfl rfl rfl rfl rfl rfl (fun j hj => ef j (by omega) (by omega)), hT.cong rfl rfl (fun j hj => ef j (by omega) (by omega)), ?_, ?_⟩
  · obtain ⟨a0, ⟨a1, a2, a3, a4, a5⟩, a6, a7, a8⟩ := hP
    unfold rlP
    rw [e1, e12, ef 13 (by omega) (by omega), ef 0 (by omega) (by omega), ef 1 (by omega) (by omega), ef 2 (by omega) (by omega), ef 3 (by omega) (by omega), ef 4 (by omega) (by omega)]
    refine ⟨a0, ⟨a1, a2, a3, a4, a5⟩, ?_, a7, fun k hk => by rw [ef (25 + k) (by omega) (by omega)]; exact a8 k hk⟩
    show s_X11_within_r ((z 1) 5 + a) (-9999) 9999 = _
    rw [a6, within_eq]
  · obtain ⟨q1, q2, q3, q4, q5, q6⟩ := hA
    unfold rlA
    rw [e11, e41, ef 18 (by omega) (by omega), ef 38 (by omega) (by omega), ef 39 (by omega) (by omega), ef 40 (by omega) (by omega), ef 35 (by omega) (by omega), ef 36 (by omega) (by omega), ef 37 (by omega) (by omega)]
    refine ⟨q1, q2, q3, q4, ?_, q6⟩
    show (z 11) 5 + 1 = f 41 + 1
    rw [q5]
  · obtain ⟨⟨a1, a2, a3, a4, a5, a6⟩, b, c, d1, d2, d3⟩ := hI
    unfold rlI
    rw [e12, ef 0 (by omega) (by omega), ef 1 (by omega) (by omega), ef 2 (by omega) (by omega), ef 3 (by omega) (by omega), ef 4 (by omega) (by omega), ef 11 (by omega) (by omega), ef 16 (by omega) (by omega), ef 17 (by omega) (by omega), ef 14 (by omega) (by omega), ef 19 (by omega) (by omega), ef 21 (by omega) (by omega), ef 22 (by omega) (by omega)]
    exact ⟨⟨a1, a2, a3, a4, a5, within_b (by decide)⟩, b, c, fun k hk => by rw [ef (25 + k) (by omega) (by omega)]; exact d1 k hk, d2, fun t ht => by rw [ef (122 + 4 * t + 3) (by omega) (by omega)]; exact d3 t ht⟩
end OPS1

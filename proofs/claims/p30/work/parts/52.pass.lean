/-! ===== a tick keeps what a state keeps ===== -/
section PASS
variable {z : Zs} {B : Int}
/-- the mode is relay -/
theorem po_mode : (poC z) 6 = z 3 6 := out_keep (by decide) (by decide) (by decide) (by decide)
theorem po_set : (poC z) 0 = z 3 0 := out_keep (by decide) (by decide) (by decide) (by decide)
theorem ps_0 : s_X7_passOne_z z 0 = upd (z 0) 0 (z 0 0 + 1) := rfl
theorem ps_1 : s_X7_passOne_z z 1 = s_X3_work_w0 (poR z) (z 1) (z 2) := rfl
theorem ps_2 : s_X7_passOne_z z 2 = s_X3_work_w1 (poR z) (z 1) (z 2) := rfl
theorem ps_3 : s_X7_passOne_z z 3 = poC z := rfl
theorem ps_9 : s_X7_passOne_z z 9 = z 9 := rfl
theorem ps_10 : s_X7_passOne_z z 10 = z 10 := rfl
/-- the temperature behind the tick -/
def tmR (z : Zs) : Int32 := s_X3_work_w0 (poR z) (z 1) (z 2) 5
theorem ps_on (h : z 3 6 = 1) : s_X7_passOne_z z 4 = s_X8_watch_w0 (z 1 5) (tmR z) (z 3 0) (z 0 0 + 1) (z 4) ∧ s_X7_passOne_z z 5 = s_X8_watch_w1 (z 1 5) (tmR z) (z 3 0) (z 0 0 + 1) (z 4) (z 5) ∧ s_X7_passOne_z z 6 = s_X8_watch_w2 (z 1 5) (tmR z) (z 3 0) (z 4) (z 6) ∧ s_X7_passOne_z z 7 = s_X8_watch_w3 (z 1 5) (tmR z) (z 3 0) (z 4) (z 7) ∧ s_X7_passOne_z z 8 = s_X8_watch_w4 (z 1 5) (tmR z) (z 3 0) (z 0 0 + 1) (z 4) (z 8) ∧ s_X7_passOne_z z 11 = if s_X8_watch_r (z 1 5) (tmR z) (z 3 0) = 0 then s_X0_addTick_w0 (poR z) (z 11) else upd (s_X0_addTick_w0 (poR z) (z 11)) 4 ((s_X0_addTick_w0 (poR z) (z 11)) 4 + 1) := by
  have hm : (s_X1_outputAt_w0 ((z 1) 5) ((z 1) 4) (z 3)) 6 = 1 := (po_mode (z := z)).trans h
  have hs : (s_X1_outputAt_w0 ((z 1) 5) ((z 1) 4) (z 3)) 0 = z 3 0 := po_set (z := z)
  refine ⟨?_, ?_, ?_, ?_, ?_, ?_⟩
  · refine (if_pos hm).trans ?_; rw [hs]; rfl
  · refine (if_pos hm).trans ?_; rw [hs]; rfl
  · refine (if_pos hm).trans ?_; rw [hs]; rfl
  · refine (if_pos hm).trans ?_; rw [hs]; rfl
  · refine (if_pos hm).trans ?_; rw [hs]; rfl
  · refine (if_pos hm).trans ?_; rw [hs]; rfl
theorem ps_off (h : ¬ z 3 6 = 1) : s_X7_passOne_z z 4 = z 4 ∧ s_X7_passOne_z z 5 = z 5 ∧ s_X7_passOne_z z 6 = z 6 ∧ s_X7_passOne_z z 7 = z 7 ∧ s_X7_passOne_z z 8 = z 8 ∧ s_X7_passOne_z z 11 = s_X0_addTick_w0 (poR z) (z 11) := by
  have hm : ¬ (s_X1_outputAt_w0 ((z 1) 5) ((z 1) 4) (z 3)) 6 = 1 := fun q => h ((po_mode (z := z)).symm.trans q)
  exact ⟨if_neg hm, if_neg hm, if_neg hm, if_neg hm, if_neg hm, if_neg hm⟩
theorem ps_12 : s_X7_passOne_z z 12 = s_X0_addTick_w1 (z 3 6) (z 12) := by
  show s_X0_addTick_w1 ((s_X1_outputAt_w0 ((z 1) 5) ((z 1) 4) (z 3)) 6) (z 12) = _
  rw [show (s_X1_outputAt_w0 ((z 1) 5) ((z 1) 4) (z 3)) 6 = z 3 6 from po_mode (z := z)]
theorem at_1 {o : Int32} {x : Nat → Int32} : s_X0_addTick_w0 o x 1 = o := upd_at _ _ _
theorem at_2 {o : Int32} {x : Nat → Int32} : s_X0_addTick_w0 o x 2 = x 2 + o := by
  unfold s_X0_addTick_w0
  (try dsimp only)
  rw [upd_ne (by decide)]
  exact ite_P (P := fun w : Nat → Int32 => w 2 = x 2 + o) (fun _ => rfl) (fun _ => rfl)
theorem at_3 {o : Int32} {x : Nat → Int32} : s_X0_addTick_w0 o x 3 = if o = x 1 then x 3 else x 3 + 1 := by
  unfold s_X0_addTick_w0
  (try dsimp only)
  rw [upd_ne (by decide)]
  by_cases c : o = x 1
  · rw [if_pos c, if_pos c]; rfl
  · rw [if_neg c, if_neg c]; rfl
theorem at_4 {o : Int32} {x : Nat → Int32} {j : Nat} (h1 : j ≠ 1) (h2 : j ≠ 2) (h3 : j ≠ 3) : s_X0_addTick_w0 o x j = x j := by
  unfold s_X0_addTick_w0
  (try dsimp only)
  rw [upd_ne h1]
  exact ite_P (P := fun w : Nat → Int32 => w j = x j) (fun _ => upd_ne h2) (fun _ => (upd_ne h3).trans (upd_ne h2))
theorem at_s {m c : Int32} {f : Nat → Int32} (hm : md3 m) (h : c = f 0 + f 1 + f 2) : c + 1 = s_X0_addTick_w1 m f 0 + s_X0_addTick_w1 m f 1 + s_X0_addTick_w1 m f 2 := by
  subst h
  rcases hm with rfl | rfl | rfl
  · show f 0 + f 1 + f 2 + 1 = (f 0 + 1) + f 1 + f 2
    ac_rfl
  · show f 0 + f 1 + f 2 + 1 = f 0 + (f 1 + 1) + f 2
    ac_rfl
  · show f 0 + f 1 + f 2 + 1 = f 0 + f 1 + (f 2 + 1)
    ac_rfl
theorem po_rg (h : GZ B z) : 0 ≤ (poR z).toInt ∧ (poR z).toInt ≤ (z 1 4).toInt := out_rg (by have := h.2.1.2.2.2.2.1.1; omega)
theorem ck_t (h : GZ B z) (hB : B < 1000000) : (z 0 0 + 1).toInt = (z 0 0).toInt + 1 := t_add (a := z 0 0) (b := 1) (by have := h.1.1; show -2147483648 ≤ (z 0 0).toInt + 1; omega) (by have := h.1.2; show (z 0 0).toInt + 1 < _; omega)
theorem pass_GZ (h : GZ B z) (hB : B < 1000000) : GZ (B + 1) (s_X7_passOne_z z) := by
  have ho := po_rg h
  have hck := ck_t h hB
  obtain ⟨h0, hP, hC, hW, hT, hA⟩ := h
  have hP' : GP (s_X3_work_w0 (poR z) (z 1) (z 2)) (s_X3_work_w1 (poR z) (z 1) (z 2)) := work_GP hP ho
  have e4 : s_X7_passOne_z z 1 4 = z 1 4 := by rw [ps_1, work_0, upd_ne (by decide), upd_ne (by decide)]
  have e00 : s_X7_passOne_z z 0 0 = z 0 0 + 1 := upd_at _ _ _
  have hP4 := hP.2.2.2.2.1
  have m1 : (z 0 0).toInt * (z 1 4).toInt ≤ 1000000 * 99 := Int.mul_le_mul (by omega) hP4.2 (by have := hP4.1; omega) (by decide)
  have m2 : ((z 0 0).toInt + 1) * (z 1 4).toInt = (z 0 0).toInt * (z 1 4).toInt + (z 1 4).toInt := by rw [Int.add_mul, Int.one_mul]
  refine ⟨?_, ?_, ?_, ?_, ?_, ?_⟩
  · rw [e00, hck]; omega
  · rw [ps_1, ps_2]; exact hP'
  · rw [ps_3]; exact out_GC hC
  · rw [e00, hck]
    by_cases c : z 3 6 = 1
    · obtain ⟨q4, q5, q6, q7, q8, -⟩ := ps_on c
      rw [q4, q5, q6, q7, q8]
      exact (watch_GW hck h0.1 (by omega) ⟨hP'.2.2.2.2.2.1.1, hP'.2.2.2.2.2.1.2⟩ hW).1
    · obtain ⟨q4, q5, q6, q7, q8, -⟩ := ps_off c
      rw [q4, q5, q6, q7, q8]
      exact hW.mono (by omega)
  · rw [ps_9, ps_10]; exact hT
  · obtain ⟨a1, a2, a3, a4, a5, a6⟩ := hA
    rw [e00, e4, ps_12]
    have hP42 : (z 1 4).toInt ≤ 99 := hP4.2
    have s2 : (z 11 2 + poR z).toInt = (z 11 2).toInt + (poR z).toInt := t_add (by omega) (by omega)
    have s3 : (z 11 3 + 1).toInt = (z 11 3).toInt + 1 := t_add (a := z 11 3) (b := 1) (by show -2147483648 ≤ (z 11 3).toInt + 1; omega) (by show (z 11 3).toInt + 1 < _; omega)
    have s4 : (z 11 4 + 1).toInt = (z 11 4).toInt + 1 := t_add (a := z 11 4) (b := 1) (by show -2147483648 ≤ (z 11 4).toInt + 1; omega) (by show (z 11 4).toInt + 1 < _; omega)
    have base : ∀ (X w : Nat → Int32), X 1 = poR z → X 2 = z 11 2 + poR z → X 3 = (if poR z = z 11 1 then z 11 3 else z 11 3 + 1) → (0 ≤ (X 4).toInt ∧ (X 4).toInt ≤ (z 0 0).toInt + 1) → (0 < (w 0).toInt ∨ w 6 = 1 → (w 0).toInt + 1 ≤ (X 4).toInt) → GA X (s_X0_addTick_w1 (z 3 6) (z 12)) w (z 0 0 + 1) (z 1 4).toInt := by
      intro X w x1 x2 x3 x4 x5
      refine ⟨by rw [x1]; exact ho, by rw [x2, s2, hck, m2]; omega, ?_, by rw [hck]; exact x4, x5, at_s hC.2.2.1 a6⟩
      rw [x3, hck]
      by_cases q : poR z = z 11 1
      · rw [if_pos q]; omega
      · rw [if_neg q, s3]; omega
    by_cases c : z 3 6 = 1
    · obtain ⟨q4, q5, q6, q7, q8, q11⟩ := ps_on c
      obtain ⟨-, w1, w2⟩ := watch_GW (c := z 0 0 + 1) (b := z 1 5) (a := tmR z) (S := z 3 0) hck h0.1 (by omega) ⟨hP'.2.2.2.2.2.1.1, hP'.2.2.2.2.2.1.2⟩ hW
      rw [q4, q11]
      by_cases k : s_X8_watch_r (z 1 5) (tmR z) (z 3 0) = 0
      · rw [if_pos k]
        obtain ⟨k1, k2⟩ := w1 k
        refine base _ _ at_1 at_2 at_3 ?_ ?_
        · rw [at_4 (by decide) (by decide) (by decide)]; omega
        · rw [k1, k2, at_4 (by decide) (by decide) (by decide)]; exact a5
      · rw [if_neg k]
        obtain ⟨k1, k2, k3⟩ := w2 k
        obtain ⟨n, hn, hw, -⟩ := hW.2.2.2
        have hcn := cnt_t hn hw
        have hx4 : upd (s_X0_addTick_w0 (poR z) (z 11)) 4 ((s_X0_addTick_w0 (poR z) (z 11)) 4 + 1) 4 = z 11 4 + 1 := by rw [upd_at, at_4 (by decide) (by decide) (by decide)]
        refine base _ _ ((upd_ne (by decide)).trans at_1) ((upd_ne (by decide)).trans at_2) ((upd_ne (by decide)).trans at_3) ?_ ?_
        · rw [hx4, s4]; omega
        · rw [hx4, s4]
          intro _
          rcases k3 with ⟨g0, g1⟩ | ⟨g0, g1⟩
          · rw [g1]
            by_cases q : 0 < (z 4 0).toInt
            · have := a5 (Or.inl q); omega
            · omega
          · have := a5 (Or.inr g0)
            omega
    · obtain ⟨q4, q5, q6, q7, q8, q11⟩ := ps_off c
      rw [q4, q11]
      refine base _ _ at_1 at_2 at_3 ?_ ?_
      · rw [at_4 (by decide) (by decide) (by decide)]; omega
      · rw [at_4 (by decide) (by decide) (by decide)]; exact a5
theorem it_GZ (h : GZ B z) (hB : B < 900000) : ∀ k : Nat, k ≤ 1000 → GZ (B + k) (itF s_X7_passOne_z k z)
  | 0, _ => by
    show GZ (B + 0) z
    rw [Int.add_zero]
    exact h
  | k + 1, hk => by
    have h1 := it_GZ h hB k (by omega)
    have h2 := pass_GZ h1 (by omega)
    show GZ (B + ((k + 1 : Nat) : Int)) (s_X7_passOne_z (itF s_X7_passOne_z k z))
    have e : B + ((k + 1 : Nat) : Int) = B + (k : Int) + 1 := by omega
    rw [e]
    exact h2
end PASS

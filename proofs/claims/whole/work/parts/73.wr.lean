section WSTEPS
variable {x9 ft x2 fl X fR f fd fk fz fr : Nat → Int32} {z : Nat → Nat → Int32} {zk zs : Nat → Nat → Nat → Int32} {N : Nat} {a b : Int32}
theorem c01 {P : Prop} [Decidable P] (k : (if P then (1 : Int32) else 0) = 0) : ¬ P := fun q => by
  rw [if_pos q] at k
  exact absurd k (by decide)
theorem WR.note0 (h : WR N x9 ft z x2 zk zs fl X fR f fd fk fz) (v : Int32) : s_X12_note_w0 (upd X 0 v) 0 = v := by
  obtain ⟨c, h5, h6, h7, h8⟩ := h.2.2.1
  obtain ⟨-, -, n3⟩ := note_rel (x := upd X 0 v) h8 ((upd_ne (by decide)).trans h6) h7 h.2.1
  exact (n3 0 (by decide)).trans (upd_at _ _ _)
theorem mode_st (h : WR N x9 ft z x2 zk zs fl X fR f fd fk fz) (k : s_X11_mode_k a = 0) : s_X12_mode_w0 a X 0 = 0 ∧ RZ N (s_X7_changeMode_z a z) (s_X12_mode_w1 a f) ∧ WR N x9 ft (s_X7_changeMode_z a z) (upd x2 1 (nI (rmC (tn (x2 1)) + 1))) (uK (rmT (tn (x2 1)) zk) (rmC (tn (x2 1))) z) zs fl (s_X12_mode_w0 a X) fR (s_X12_mode_w1 a f) (s_X12_mode_w2 a X f fd) fk fz := by
  rw [k_mode] at k
  have d := c01 k
  have hz := mode_rel (a := a) h.2.1 (isModeC_in (mt md_iff.mp d))
  unfold s_X12_mode_w0 s_X12_mode_w1 s_X12_mode_w2
  try dsimp only
  rw [if_neg d, if_pos ref_0, if_pos ref_0, if_pos ref_0]
  exact ⟨h.note0 0, hz, h.step (Nat.le_refl _) hz⟩
theorem set_st (h : WR N x9 ft z x2 zk zs fl X fR f fd fk fz) (k : s_X11_set_k a b = 0) : s_X12_set_w0 a b X 0 = 0 ∧ RZ N (s_X7_put_z a b z) (s_X12_set_w1 a b f) ∧ WR N x9 ft (s_X7_put_z a b z) (upd x2 1 (nI (rmC (tn (x2 1)) + 1))) (uK (rmT (tn (x2 1)) zk) (rmC (tn (x2 1))) z) zs fl (s_X12_set_w0 a b X) fR (s_X12_set_w1 a b f) (s_X12_set_w2 a b X f fd) fk fz := by
  rw [k_set] at k
  have d := c01 k
  have d2 := mt st_iff.mp d
  obtain ⟨q, q1, q2⟩ := set_place d2
  have hz := put_rel h.2.1 q1 q2 d2
  unfold s_X12_set_w0 s_X12_set_w1 s_X12_set_w2
  try dsimp only
  rw [if_neg d, if_pos ref_0, if_pos ref_0, if_pos ref_0]
  exact ⟨h.note0 0, hz, h.step (Nat.le_refl _) hz⟩
theorem dist_st (h : WR N x9 ft z x2 zk zs fl X fR f fd fk fz) (k : s_X11_disturb_k a = 0) : s_X12_disturb_w0 a X 0 = 0 ∧ RZ N (s_X7_push_z a z) (s_X12_disturb_w1 a f) ∧ WR N x9 ft (s_X7_push_z a z) (upd x2 1 (nI (rmC (tn (x2 1)) + 1))) (uK (rmT (tn (x2 1)) zk) (rmC (tn (x2 1))) z) zs fl (s_X12_disturb_w0 a X) fR (s_X12_disturb_w1 a f) (s_X12_disturb_w2 a X f fd) fk fz := by
  rw [k_dist] at k
  have d := c01 k
  have hz := push_rel (a := a) h.2.1 (mt ds_iff.mp d)
  unfold s_X12_disturb_w0 s_X12_disturb_w1 s_X12_disturb_w2
  try dsimp only
  rw [if_neg d, if_pos ref_0, if_pos ref_0, if_pos ref_0]
  exact ⟨h.note0 0, hz, h.step (Nat.le_refl _) hz⟩
theorem app_st (h : WR N x9 ft z x2 zk zs fl X fR f fd fk fz) (k : s_X11_append_k a x9 = 0) : s_X11_append_r x9 = s_X12_append_r a X ∧ s_X12_append_w0 a X 0 = 0 ∧ WR N (s_X11_append_w1 x9) (s_X11_append_w2 a x9 ft) z x2 zk zs fl (s_X12_append_w0 a X) (s_X12_append_w1 a X fR) f fd fk fz := by
  obtain ⟨⟨L, h1, h2, h3⟩, h4, ⟨c, h5, h6, h7⟩, h8⟩ := h
  obtain ⟨r1, r2, r3, r4⟩ := app_rel h3 h1 h2 k
  rw [app_k h1 h2 h3.1] at k
  unfold s_X12_append_r s_X12_append_w0 s_X12_append_w1
  try dsimp only
  rw [k, if_pos ref_0, if_pos ref_0, if_pos ref_0]
  exact ⟨r2.trans r3.symm, (upd_ne (by decide)).trans (upd_at _ _ _), ⟨L + 1, r2, (upd_at _ _ _).trans r3, r4⟩, h4, ⟨c, h5, (upd_ne (by decide)).trans ((upd_ne (by decide)).trans h6), h7⟩, h8⟩
theorem app_no (h : WR N x9 ft z x2 zk zs fl X fR f fd fk fz) (k : ¬ s_X11_append_k a x9 = 0) : s_X12_append_r a X = 0 ∧ s_X12_append_w0 a X = upd X 0 (s_X11_append_k a x9) ∧ s_X12_append_w1 a X fR = fR := by
  obtain ⟨⟨L, h1, h2, h3⟩, -⟩ := h
  have n : ¬ s_X12_refused_r (s_X11_append_k a x9) = 0 := by
    rw [app_k h1 h2 h3.1] at k ⊢
    by_cases d : s_X12_in_r a.toInt64 0 255 = 0
    · rw [if_pos d]; exact ref_1
    · rw [if_neg d] at k ⊢
      by_cases d2 : X 2 = 60
      · rw [if_pos d2]; exact ref_2
      · rw [if_neg d2] at k
        exact absurd rfl k
  unfold s_X12_append_r s_X12_append_w0 s_X12_append_w1
  try dsimp only
  rw [← app_k h1 h2 h3.1, if_neg n, if_neg n, if_neg n]
  exact ⟨rfl, rfl, rfl⟩
end WSTEPS

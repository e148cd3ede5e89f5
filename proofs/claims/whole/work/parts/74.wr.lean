section WSTEP2
variable {x9 ft x2 fl X fR f fd fk fz fr : Nat → Int32} {z : Nat → Nat → Int32} {zk zs : Nat → Nat → Nat → Int32} {N : Nat} {a b : Int32}
theorem c03 {P : Prop} [Decidable P] (k : (if P then (3 : Int32) else 0) = 0) : ¬ P := fun q => by
  rw [if_pos q] at k
  exact absurd k (by decide)
theorem c02 {P : Prop} [Decidable P] (k : (if P then (2 : Int32) else 0) = 0) : ¬ P := fun q => by
  rw [if_pos q] at k
  exact absurd k (by decide)
theorem disc_st (h : WR N x9 ft z x2 zk zs fl X fR f fd fk fz) (k : s_X11_discard_k a z = 0) : s_X11_discard_r a z = s_X12_discard_r a f ∧ s_X12_discard_w0 a X f 0 = 0 ∧ WR N x9 ft (s_X11_discard_z a z) (upd x2 1 (nI (rmC (tn (x2 1)) + 1))) (uK (rmT (tn (x2 1)) zk) (rmC (tn (x2 1))) z) zs fl (s_X12_discard_w0 a X f) fR (s_X12_discard_w1 a f) (s_X12_discard_w2 a X f fd) fk fz := by
  unfold s_X11_discard_k at k
  have d0 := c03 k
  have d := mt (has_rel (a := a) h.2.1).mpr d0
  obtain ⟨e1, e2⟩ := has_ix h.2.1 d0
  have hz := drop_rel h.2.1 e1 e2
  unfold s_X11_discard_r s_X12_discard_r s_X12_discard_w0 s_X12_discard_w1 s_X12_discard_w2
  try dsimp only
  rw [if_neg d, if_pos ref_0, if_pos ref_0, if_pos ref_0, if_pos ref_0]
  exact ⟨dis_rel h.2.1 d0, h.note0 0, h.step (Nat.le_refl _) hz⟩
theorem try_st (h : WR N x9 ft z x2 zk zs fl X fR f fd fk fz) (k : s_X11_tryRule_k a z = 0) : s_X12_tryRule_w0 a X f 0 = 0 ∧ RZ N (s_X7_beginTrial_z a z) (s_X12_tryRule_w1 a f) ∧ WR N x9 ft (s_X7_beginTrial_z a z) (upd x2 1 (nI (rmC (tn (x2 1)) + 1))) (uK (rmT (tn (x2 1)) zk) (rmC (tn (x2 1))) z) zs fl (s_X12_tryRule_w0 a X f) fR (s_X12_tryRule_w1 a f) (s_X12_tryRule_w2 a X f fd) fk fz := by
  unfold s_X11_tryRule_k at k
  have d0 : ¬ s_X11_isRule_r a = 0 := fun q => by
    rw [if_pos q] at k
    exact absurd k (by decide)
  rw [if_neg d0] at k
  have d1 := c02 k
  rw [can_rel h.2.1] at d1
  have d2 := mt ru_iff.mpr d0
  have hz := try_rel h.2.1 (rule_in d0) d0 d1
  unfold s_X12_tryRule_w0 s_X12_tryRule_w1 s_X12_tryRule_w2
  try dsimp only
  rw [if_neg d2, if_neg d1, if_pos ref_0, if_pos ref_0, if_pos ref_0]
  exact ⟨h.note0 0, hz, h.step (Nat.le_refl _) hz⟩
theorem back_st (h : WR N x9 ft z x2 zk zs fl X fR f fd fk fz) (k : s_X11_takeBack_k z = 0) : s_X11_takeBack_r z = s_X12_takeBack_r f ∧ s_X12_takeBack_w0 X f 0 = 0 ∧ WR N x9 ft (s_X7_endTrial_z z) (upd x2 1 (nI (rmC (tn (x2 1)) + 1))) (uK (rmT (tn (x2 1)) zk) (rmC (tn (x2 1))) z) zs fl (s_X12_takeBack_w0 X f) fR (s_X12_takeBack_w1 f) (s_X12_takeBack_w2 X f fd) fk fz := by
  unfold s_X11_takeBack_k at k
  have d0 := c02 k
  rw [h.2.1.2.2.2.1.1] at d0
  obtain ⟨hz, e⟩ := takeBack_rel h.2.1 d0
  unfold s_X11_takeBack_r s_X12_takeBack_r s_X12_takeBack_w0 s_X12_takeBack_w1 s_X12_takeBack_w2
  try dsimp only
  rw [if_neg d0, if_pos ref_0, if_pos ref_0, if_pos ref_0, if_pos ref_0]
  exact ⟨e, h.note0 0, h.step (Nat.le_refl _) hz⟩
theorem acpt_st (h : WR N x9 ft z x2 zk zs fl X fR f fd fk fz) : s_X11_accept_r z = s_X12_accept_r f ∧ s_X12_accept_w0 X 0 = 0 ∧ WR N x9 ft (s_X11_accept_z z) (upd x2 1 (nI (rmC (tn (x2 1)) + 1))) (uK (rmT (tn (x2 1)) zk) (rmC (tn (x2 1))) z) zs fl (s_X12_accept_w0 X) fR (s_X12_accept_w1 f) (s_X12_accept_w2 X f fd) fk fz := ⟨h.2.1.2.2.2.1.1, h.note0 0, h.step (Nat.le_refl _) (accept_rel h.2.1)⟩
theorem undo_st (h : WR N x9 ft z x2 zk zs fl X fR f fd fk fz) (k : s_X11_undo_k x2 = 0) : s_X11_undo_r x2 = s_X12_undo_r X ∧ s_X12_undo_w0 X 0 = 0 ∧ WR N x9 ft (zk (tn (x2 1) - 1)) (s_X11_undo_w1 x2) zk zs fl (s_X12_undo_w0 X) fR (s_X12_undo_w1 X f fd) fd fk fz := by
  obtain ⟨⟨L, h1, h2, h3⟩, h4, ⟨c, h5, h6, h7, h8⟩, h9, h10, h11⟩ := h
  unfold s_X11_undo_k at k
  have d0 := c02 k
  have dc : 0 < c := by
    rcases Nat.eq_zero_or_pos c with q | q
    · exact absurd (by rw [h5, q]; rfl) d0
    · exact q
  have d1 : ¬ X 8 = 0 := by rw [h6, ← h5]; exact d0
  obtain ⟨n, rfl⟩ : ∃ n, c = n + 1 := ⟨c - 1, by omega⟩
  obtain ⟨hz, hH⟩ := undo_rel h8
  have ec : x2 1 - 1 = nI n := by
    rw [h5]
    exact sub1_ix rfl (by omega)
  have ed : X 8 - 1 = nI n := by
    rw [h6]
    exact sub1_ix rfl (by omega)
  unfold s_X11_undo_r s_X11_undo_w1 s_X12_undo_r s_X12_undo_w0 s_X12_undo_w1
  try dsimp only
  rw [if_neg d1, if_pos ref_0, if_pos ref_0, if_pos ref_0, ec, ed, tn_of (k := n) rfl (by omega), show tn (x2 1) = n + 1 from tn_of h5 (by omega)]
  refine ⟨rfl, (upd_ne (by decide)).trans (upd_at _ _ _), ⟨L, h1, (upd_ne (by decide)).trans ((upd_ne (by decide)).trans h2), h3⟩, hz, ⟨n, upd_at _ _ _, upd_at _ _ _, by omega, hH⟩, h9, h10, h11⟩
end WSTEP2

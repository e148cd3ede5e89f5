section WSTEP3
variable {x9 ft x2 fl X fR f fd fk fz fr : Nat → Int32} {z : Nat → Nat → Int32} {zk zs : Nat → Nat → Nat → Int32} {N : Nat} {a b : Int32}
theorem nb_1 : vp_nar .boolean 1 = 1 := by decide
theorem nb_0 : vp_nar .boolean 0 = 0 := by decide
theorem slot_in (d : ¬ s_X12_in_r a.toInt64 0 1 = 0) : tn a < 2 := (in_tn (in_vp (n := 2) d (by decide) (by decide)) (by decide)).2
theorem save_st (h : WR N x9 ft z x2 zk zs fl X fR f fd fk fz) (k : s_X11_save_k a = 0) : s_X11_save_r z = s_X12_save_r a f ∧ s_X12_save_w0 a X 0 = 0 ∧ WR N x9 ft z x2 zk (uK zs (tn a) z) (upd fl (tn a) 1) (s_X12_save_w0 a X) fR f fd (s_X12_save_w2 a f fk) (s_X12_save_w3 a fz) := by
  unfold s_X11_save_k at k
  have d0 := c03 k
  have d := mt sl_iff.mpr d0
  obtain ⟨⟨L, h1, h2, h3⟩, h4, ⟨c, h5, h6, h7, h8⟩, h9, h10, h11⟩ := h
  unfold s_X11_save_r s_X12_save_r s_X12_save_w0 s_X12_save_w2 s_X12_save_w3
  try dsimp only
  rw [if_neg d, if_pos ref_0, if_pos ref_0, if_pos ref_0, nb_1]
  exact ⟨h4.1.1, upd_at _ _ _, ⟨L, h1, (upd_ne (by decide)).trans h2, h3⟩, h4, ⟨c, h5, (upd_ne (by decide)).trans h6, h7, h8⟩, save_rel h9 (slot_in d) h4, h10, bz_uK h11 h4.bz⟩
theorem rest_st (h : WR N x9 ft z x2 zk zs fl X fR f fd fk fz) (k : s_X11_restore_k a fl = 0) : s_X11_restore_r a zs = s_X12_restore_r a f fk fz ∧ s_X12_restore_w0 a X fz 0 = 0 ∧ WR N x9 ft (zs (tn a)) (s_X11_restore_w1 x2) zk zs fl (s_X12_restore_w0 a X fz) fR (s_X12_restore_w1 a f fk fz) fd fk fz := by
  unfold s_X11_restore_k at k
  have d0 : ¬ s_X11_isSlot_r a = 0 := fun q => by
    rw [if_pos q] at k
    exact absurd k (by decide)
  rw [if_neg d0] at k
  have d1 := c02 k
  have d := mt sl_iff.mpr d0
  have hk := (h.2.2.2.1) (tn a) (slot_in d)
  have d2 : ¬ fz (tn a) = 0 := fun q => by
    unfold s_X6_isFilled_r at d1
    try dsimp only at d1
    rw [if_neg d0, hk.1, if_pos q] at d1
    exact d1 rfl
  have hz := restore_rel h.2.2.2.1 (slot_in d) d2 (f := f)
  unfold s_X11_restore_r s_X11_restore_w1 s_X12_restore_r s_X12_restore_w0 s_X12_restore_w1
  try dsimp only
  rw [if_neg d, if_neg d2, if_pos ref_0, if_pos ref_0, if_pos ref_0]
  exact ⟨hz.1.1, (upd_ne (by decide)).trans (upd_at _ _ _), h.wipe (upd_at _ _ _) ((upd_ne (by decide)).trans (upd_ne (by decide))) (upd_at _ _ _) (Nat.le_refl _) hz⟩
theorem clr_st (h : WR N x9 ft z x2 zk zs fl X fR f fd fk fz) : s_X11_clearText_r x9 = s_X12_clearText_r X ∧ s_X12_clearText_w0 X 0 = 0 ∧ WR N (s_X11_clearText_w1 x9) ft z x2 zk zs fl (s_X12_clearText_w0 X) fR f fd fk fz := by
  obtain ⟨⟨L, h1, h2, h3⟩, h4, ⟨c, h5, h6, h7⟩, h8⟩ := h
  exact ⟨h1.trans h2.symm, (upd_ne (by decide)).trans (upd_at _ _ _), ⟨0, upd_at _ _ _, upd_at _ _ _, clr_rel⟩, h4, ⟨c, h5, (upd_ne (by decide)).trans ((upd_ne (by decide)).trans h6), h7⟩, h8⟩
theorem errp_st (h : WR N x9 ft z x2 zk zs fl X fR f fd fk fz) : s_X11_errorPosition_r x9 ft = s_X12_errorPosition_r X fR fr ∧ s_X12_errorPosition_w0 X fR fr 0 = 0 ∧ WR N (s_X11_errorPosition_w1 x9 ft) ft z x2 zk zs fl (s_X12_errorPosition_w0 X fR fr) fR f fd fk fz := by
  obtain ⟨⟨L, h1, h2, h3⟩, h4, ⟨c, h5, h6, h7⟩, h8⟩ := h
  obtain ⟨r1, r2, r3⟩ := read_rel (fr := fr) (X := upd X 0 0) h3 h1 ((upd_ne (by decide)).trans h2)
  unfold s_X11_errorPosition_r s_X11_errorPosition_w1 s_X12_errorPosition_r s_X12_errorPosition_w0
  try dsimp only
  refine ⟨?_, (r2 0 (by decide)).trans (upd_at _ _ _), ⟨L, r1, (r2 2 (by decide)).trans ((upd_ne (by decide)).trans h2), h3⟩, h4, ⟨c, h5, (r2 8 (by decide)).trans ((upd_ne (by decide)).trans h6), h7⟩, h8⟩
  rcases r3 with ⟨a0, q, q1, q2, q3⟩ | ⟨a1, q2, -⟩
  · rw [if_pos a0, q2, q3]
  · rw [if_neg (by rw [a1]; decide), q2]
theorem load_st (h : WR N x9 ft z x2 zk zs fl X fR f fd fk fz) (k : s_X11_load_k x9 ft = 0) : s_X11_load_r x9 ft zI = s_X12_load_r X fR fr ∧ s_X12_load_w0 X fR fr 0 = 0 ∧ WR N (s_X11_load_w1 x9 ft) ft (s_X9_putInto_z (s_X9_read_w0 x9 ft) zI) (s_X11_load_w31 x2) zk zs (s_X11_load_w33 fl) (s_X12_load_w0 X fR fr) fR (s_X12_load_w3 X fR fr f) fd fk (s_X12_load_w4 X fR fr fz) := by
  obtain ⟨⟨L, h1, h2, h3⟩, h4, ⟨c, h5, h6, h7⟩, h9, h10, h11⟩ := h
  obtain ⟨r1, r2, r3⟩ := read_rel (fr := fr) (X := X) h3 h1 h2
  unfold s_X11_load_k at k
  have d : s_X9_read_r x9 ft = -99999 := Decidable.byContradiction (fun q => by
    rw [if_neg q] at k
    exact absurd k (by decide))
  rcases r3 with ⟨a0, q, q1, q2, q3⟩ | ⟨a1, q2, q3⟩
  · rw [q2] at d
    have e := congrArg Int32.toInt d
    rw [nI_toInt (by have := h3.1; omega)] at e
    have e2 : (-99999 : Int32).toInt = -99999 := rfl
    omega
  · have hz := load_rel q3
    have n0 : ¬ s_X12_readAll_r X fR fr = 0 := by rw [a1]; decide
    unfold s_X11_load_r s_X11_load_w1 s_X11_load_w31 s_X11_load_w33 s_X2_forget_w0 s_X6_empty_w1 s_X12_load_r s_X12_load_w0 s_X12_load_w3 s_X12_load_w4
    try dsimp only
    rw [if_neg n0, if_pos ref_0, if_pos ref_0, if_pos ref_0, if_pos ref_0, nb_0]
    refine ⟨hz.1.2.2.1, (upd_ne (by decide)).trans (upd_at _ _ _), ⟨L, r1, (upd_ne (by decide)).trans ((upd_ne (by decide)).trans ((r2 2 (by decide)).trans h2)), h3⟩, hz.mono (Nat.zero_le _), ⟨0, upd_at _ _ _, upd_at _ _ _, by decide, fun k hk => absurd hk (Nat.not_lt_zero _)⟩, KR.none (fun i hi => ?_) (fun i hi => ?_), h10, h11⟩
    · rcases (show i = 0 ∨ i = 1 by omega) with rfl | rfl <;> rfl
    · rcases (show i = 0 ∨ i = 1 by omega) with rfl | rfl <;> rfl
end WSTEP3

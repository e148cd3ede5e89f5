section WRS
variable {x9 ft x2 fl X X' fR f f' fd fk fz : Nat → Int32} {z z' : Nat → Nat → Int32} {zk zs : Nat → Nat → Nat → Int32} {N M : Nat} {a b v : Int32}
/-- the class's world and the reference's -/
def WR (N : Nat) (x9 ft : Nat → Int32) (z : Nat → Nat → Int32) (x2 : Nat → Int32) (zk zs : Nat → Nat → Nat → Int32) (fl X fR f fd fk fz : Nat → Int32) : Prop := (∃ L, x9 1 = nI L ∧ X 2 = nI L ∧ tpB L ft fR) ∧ RZ N z f ∧ (∃ c, x2 1 = nI c ∧ X 8 = nI c ∧ c ≤ 14 ∧ HR N c zk fd) ∧ KR N zs fl fk fz ∧ (∀ k, BZ (zk k)) ∧ ∀ k, BZ (zs k)
theorem WR.mono (h : WR N x9 ft z x2 zk zs fl X fR f fd fk fz) (hm : N ≤ M) : WR M x9 ft z x2 zk zs fl X fR f fd fk fz := by
  obtain ⟨h1, h2, ⟨c, h3, h4, h5, h6⟩, h7, h8, h9⟩ := h
  exact ⟨h1, h2.mono hm, ⟨c, h3, h4, h5, h6.mono hm⟩, h7.mono hm, h8, h9⟩
/-- the reference's own notes are no part of it -/
theorem WR.note (h : WR N x9 ft z x2 zk zs fl X fR f fd fk fz) (e2 : X' 2 = X 2) (e8 : X' 8 = X 8) : WR N x9 ft z x2 zk zs fl X' fR f fd fk fz := by
  obtain ⟨⟨L, h1, h2, h3⟩, h4, ⟨c, h5, h6, h7⟩, h8⟩ := h
  exact ⟨⟨L, h1, e2.trans h2, h3⟩, h4, ⟨c, h5, e8.trans h6, h7⟩, h8⟩
theorem bz_rmT {c : Nat} (h : ∀ k, BZ (zk k)) : ∀ k, BZ (rmT c zk k) := by
  intro k
  unfold rmT
  by_cases q : c < 14
  · rw [if_pos q]; exact h k
  · rw [if_neg q]
    unfold tK
    by_cases q2 : k = 13
    · rw [if_pos q2]; exact h 0
    · rw [if_neg q2]
      by_cases q3 : k < 13
      · rw [if_pos q3]; exact h (k + 1)
      · rw [if_neg q3]; exact h k
theorem bz_uK {c : Nat} (h : ∀ k, BZ (zk k)) (hz : BZ z) : ∀ k, BZ (uK zk c z k) := by
  intro k
  unfold uK
  by_cases q : k = c
  · rw [if_pos q]; exact hz
  · rw [if_neg q]; exact h k
/-- a call that is remembered -/
theorem WR.step (h : WR N x9 ft z x2 zk zs fl X fR f fd fk fz) (hm : N ≤ M) (hz : RZ M z' f') : WR M x9 ft z' (upd x2 1 (nI (rmC (tn (x2 1)) + 1))) (uK (rmT (tn (x2 1)) zk) (rmC (tn (x2 1))) z) zs fl (s_X12_note_w0 (upd X 0 v)) fR f' (s_X12_note_w2 (upd X 0 v) f fd) fk fz := by
  obtain ⟨⟨L, h1, h2, h3⟩, h4, ⟨c, h5, h6, h7, h8⟩, h9, h10, h11⟩ := h.mono hm
  have ec : tn (x2 1) = c := tn_of h5 (by omega)
  obtain ⟨n1, n2, n3⟩ := note_rel (x := upd X 0 v) h8 ((upd_ne (by decide)).trans h6) h7 h4
  rw [ec]
  refine ⟨⟨L, h1, (n3 2 (by decide)).trans ((upd_ne (by decide)).trans h2), h3⟩, hz, ⟨rmC c + 1, upd_at _ _ _, n2, ?_, n1⟩, h9, bz_uK (bz_rmT h10) h4.bz, h11⟩
  unfold rmC
  by_cases q : c < 14
  · rw [if_pos q]; omega
  · rw [if_neg q]
    decide
/-- a call that forgets the history: a text loaded, a slot restored -/
theorem WR.wipe (h : WR N x9 ft z x2 zk zs fl X fR f fd fk fz) {x2' : Nat → Int32} (e1 : x2' 1 = 0) (e2 : X' 2 = X 2) (e8 : X' 8 = 0) (hm : N ≤ M) (hz : RZ M z' f') : WR M x9 ft z' x2' zk zs fl X' fR f' fd fk fz := by
  obtain ⟨⟨L, h1, h2, h3⟩, h4, ⟨c, h5, h6, h7, h8⟩, h9, h10, h11⟩ := h.mono hm
  exact ⟨⟨L, h1, e2.trans h2, h3⟩, hz, ⟨0, e1, e8, by decide, fun k hk => absurd hk (Nat.not_lt_zero _)⟩, h9, h10, h11⟩
theorem WR.tc (h : RZ N z f) : TC z := by
  refine ⟨?_, h.1.2.2.2.1, h.bz.1⟩
  rw [h.2.2.1.1]
  exact h.2.2.2.2.2.2.1.2.1
theorem WR.ts (h : RZ N z f) : TS z := ⟨WR.tc h, h.bz.2⟩
theorem k_tick : s_X11_tick_k a = (if (s_X12_in_r a.toInt64 1 200) = 0 then 1 else 0) := by
  unfold s_X11_tick_k
  by_cases q : s_X11_isTicks_r a = 0
  · rw [if_pos q, if_pos (tk_iff.mp q)]
  · rw [if_neg q, if_neg (mt tk_iff.mpr q)]
theorem k_mode : s_X11_mode_k a = (if (s_X12_isMode_r a) = 0 then 1 else 0) := by
  unfold s_X11_mode_k
  by_cases q : s_X11_isMode_r a = 0
  · rw [if_pos q, if_pos (md_iff.mp q)]
  · rw [if_neg q, if_neg (mt md_iff.mpr q)]
theorem k_set : s_X11_set_k a b = (if (s_X12_isSetting_r a b) = 0 then 1 else 0) := by
  unfold s_X11_set_k
  by_cases q : s_X11_isSetting_r a b = 0
  · rw [if_pos q, if_pos (st_iff.mp q)]
  · rw [if_neg q, if_neg (mt st_iff.mpr q)]
theorem k_dist : s_X11_disturb_k a = (if (s_X12_in_r a.toInt64 (-500) 500) = 0 then 1 else 0) := by
  unfold s_X11_disturb_k
  by_cases q : s_X11_isDisturbance_r a = 0
  · rw [if_pos q, if_pos (ds_iff.mp q)]
  · rw [if_neg q, if_neg (mt ds_iff.mpr q)]
theorem ref_0 : s_X12_refused_r 0 = 0 := rfl
theorem ref_1 : ¬ s_X12_refused_r 1 = 0 := by decide
theorem ref_2 : ¬ s_X12_refused_r 2 = 0 := by decide
/-- ticks, as a call -/
theorem tick_step (h : WR N x9 ft z x2 zk zs fl X fR f fd fk fz) (hN : N + 200 < 2147483648) (k : s_X11_tick_k a = 0) : s_X11_tick_r a z = s_X12_tick_r a f ∧ s_X12_tick_w0 a X 0 = 0 ∧ WR (N + 200) x9 ft (s_X7_pass_z a z) (upd x2 1 (nI (rmC (tn (x2 1)) + 1))) (uK (rmT (tn (x2 1)) zk) (rmC (tn (x2 1))) z) zs fl (s_X12_tick_w0 a X) fR (s_X12_tick_w1 a f) (s_X12_tick_w2 a X f fd) fk fz := by
  rw [k_tick] at k
  have d : ¬ s_X12_in_r a.toInt64 1 200 = 0 := fun q => by
    rw [if_pos q] at k
    exact absurd k (by decide)
  have d2 : ¬ s_X11_isTicks_r a = 0 := mt tk_iff.mp d
  have hz := pass_rel (x := a) h.2.1 d2 hN
  unfold s_X12_tick_r s_X12_tick_w0 s_X12_tick_w1 s_X12_tick_w2
  try dsimp only
  rw [if_neg d, if_pos ref_0, if_pos ref_0, if_pos ref_0, if_pos ref_0]
  obtain ⟨c, h5, h6, h7, h8⟩ := h.2.2.1
  obtain ⟨-, -, n3⟩ := note_rel (x := upd X 0 0) h8 ((upd_ne (by decide)).trans h6) h7 h.2.1
  refine ⟨?_, (n3 0 (by decide)).trans (upd_at _ _ _), h.step (by omega) hz⟩
  unfold s_X11_tick_r
  exact hz.1.2.2.1
end WRS

section LSTEPS
variable {x9 ft x2 fl X fR f fd fk fz fr sx : Nat → Int32} {z : Nat → Nat → Int32} {zk zs : Nat → Nat → Nat → Int32} {N : Nat} {a b v : Int32} {q : Int64}
/-- the law's code of a refused call: by the place of the catch -/
def cdK (c K : Int32) : Int32 := if K = 0 then 0 else if K = c then 1 else 2
theorem cd0 {c : Int32} : cdK c 0 = 0 := if_pos rfl
theorem cd11 : cdK 1 1 = 1 := by decide
theorem cd12 : cdK 1 2 = 2 := by decide
theorem cd22 : cdK 2 2 = 1 := by decide
theorem cd33 : cdK 3 3 = 1 := by decide
theorem cd31 : cdK 3 1 = 2 := by decide
theorem cd32 : cdK 3 2 = 2 := by decide
theorem cd_i {c K J : Int32} {P : Prop} [Decidable P] : cdK c (if P then K else J) = if P then cdK c K else cdK c J := by
  by_cases h : P
  · rw [if_pos h, if_pos h]
  · rw [if_neg h, if_neg h]
theorem ref_c {c K : Int32} (h : ¬ K = 0) : ¬ s_X12_refused_r (cdK c K) = 0 := by
  unfold cdK
  rw [if_neg h]
  by_cases e : K = c
  · rw [if_pos e]; exact ref_1
  · rw [if_neg e]; exact ref_2
theorem it_iff {P Q : Prop} [Decidable P] [Decidable Q] {α : Type} {x y : α} (h : P ↔ Q) : (if P then x else y) = if Q then x else y := by
  by_cases e : P
  · rw [if_pos e, if_pos (h.mp e)]
  · rw [if_neg e, if_neg (mt h.mpr e)]
theorem it_c {P : Prop} [Decidable P] {α : Type} {x y x' y' : α} (h1 : x = x') (h2 : y = y') : (if P then x else y) = if P then x' else y' := by rw [h1, h2]
theorem k_rng {x y : Int32} (lo hi : Int32) (l u : Int64) (hl : l.toInt = lo.toInt) (hu : u.toInt = hi.toInt) : (if a < lo then x else (if a ≤ hi then y else x)) = (if s_X12_in_r a.toInt64 l u = 0 then x else y) := by
  by_cases c1 : a < lo
  · have k := Int32.lt_iff_toInt_lt.mp c1
    rw [if_pos c1, if_pos (in01 (by rw [i64_of]; omega))]
  · rw [if_neg c1]
    have k := mt Int32.lt_iff_toInt_lt.mpr c1
    by_cases c2 : a ≤ hi
    · have k2 := Int32.le_iff_toInt_le.mp c2
      rw [if_pos c2, if_neg (in10 (by rw [i64_of]; omega))]
    · have k2 := mt Int32.le_iff_toInt_le.mpr c2
      rw [if_neg c2, if_pos (in01 (by rw [i64_of]; omega))]
theorem k_rng2 {x y : Int32} (lo hi : Int32) (l u : Int64) (hl : l.toInt = lo.toInt) (hu : u.toInt = hi.toInt) : (if a < lo then x else (if hi < a then x else y)) = (if s_X12_in_r a.toInt64 l u = 0 then x else y) := by
  by_cases c1 : a < lo
  · have k := Int32.lt_iff_toInt_lt.mp c1
    rw [if_pos c1, if_pos (in01 (by rw [i64_of]; omega))]
  · rw [if_neg c1]
    have k := mt Int32.lt_iff_toInt_lt.mpr c1
    by_cases c2 : hi < a
    · have k2 := Int32.lt_iff_toInt_lt.mp c2
      rw [if_pos c2, if_pos (in01 (by rw [i64_of]; omega))]
    · have k2 := mt Int32.lt_iff_toInt_lt.mpr c2
      rw [if_neg c2, if_neg (in10 (by rw [i64_of]; omega))]
theorem gn0 (h : RZ N z f) : nI (goodP f) = 0 ↔ goodP f = 0 := by
  rw [← good_rel h]
  exact good_0 h
theorem kv_append (h : WR N x9 ft z x2 zk zs fl X fR f fd fk fz) : cdK 1 (s_X11_append_k a x9) = (if (s_X12_in_r a.toInt64 0 255) = 0 then 1 else (if (X 2) = 60 then 2 else 0)) := by
  obtain ⟨⟨L, h1, h2, h3⟩, -⟩ := h
  rw [app_k h1 h2 h3.1, cd_i, cd_i, cd11, cd12, cd0]
theorem kv_load (h : WR N x9 ft z x2 zk zs fl X fR f fd fk fz) : cdK 2 (s_X11_load_k x9 ft) = (if (s_X12_readAll_r X fR fr) = 0 then 1 else 0) := by
  obtain ⟨⟨L, h1, h2, h3⟩, -⟩ := h
  obtain ⟨r1, r2, r3⟩ := read_rel (fr := fr) (X := X) h3 h1 h2
  unfold s_X11_load_k
  rcases r3 with ⟨a0, q0, q1, q2, q3⟩ | ⟨a1, q2, q3⟩
  · have d : ¬ s_X9_read_r x9 ft = -99999 := fun e => by
      rw [q2] at e
      have e := congrArg Int32.toInt e
      rw [nI_toInt (by have := h3.1; omega)] at e
      have e2 : (-99999 : Int32).toInt = -99999 := rfl
      omega
    rw [if_neg d, if_pos a0]
    exact cd22
  · rw [if_pos q2, if_neg (by rw [a1]; decide)]
    exact cd0
theorem kv_about : cdK 1 (s_X11_about_k a) = (if (s_X12_in_r a.toInt64 0 19) = 0 then 1 else 0) := by
  unfold s_X11_about_k
  rw [k_rng 0 19 0 19 rfl rfl, cd_i, cd11, cd0]
theorem kv_swing (h : WR N x9 ft z x2 zk zs fl X fR f fd fk fz) : cdK 3 (s_X11_swing_k a b z) = (if (s_X12_isSwing_r a f) = 0 then 1 else (if (s_X12_in_r b.toInt64 0 4) = 0 then 2 else 0)) := by
  unfold s_X11_swing_k
  rw [k_rng 0 4 0 4 rfl rfl, cd_i, cd_i, cd33, cd31, cd0]
  exact it_iff (has_rel h.2.1)
theorem kv_account : cdK 1 (s_X11_account_k a) = (if (s_X12_in_r a.toInt64 0 6) = 0 then 1 else 0) := by
  unfold s_X11_account_k
  rw [k_rng 0 6 0 6 rfl rfl, cd_i, cd11, cd0]
theorem kv_tick : cdK 1 (s_X11_tick_k a) = (if (s_X12_in_r a.toInt64 1 200) = 0 then 1 else 0) := by
  rw [k_tick, cd_i, cd11, cd0]
theorem kv_mode : cdK 1 (s_X11_mode_k a) = (if (s_X12_isMode_r a) = 0 then 1 else 0) := by
  rw [k_mode, cd_i, cd11, cd0]
theorem kv_set : cdK 1 (s_X11_set_k a b) = (if (s_X12_isSetting_r a b) = 0 then 1 else 0) := by
  rw [k_set, cd_i, cd11, cd0]
theorem kv_disturb : cdK 1 (s_X11_disturb_k a) = (if (s_X12_in_r a.toInt64 (-500) 500) = 0 then 1 else 0) := by
  rw [k_dist, cd_i, cd11, cd0]
theorem kv_discard (h : WR N x9 ft z x2 zk zs fl X fR f fd fk fz) : cdK 3 (s_X11_discard_k a z) = (if (s_X12_isSwing_r a f) = 0 then 1 else 0) := by
  unfold s_X11_discard_k
  rw [cd_i, cd33, cd0]
  exact it_iff (has_rel h.2.1)
theorem kv_tryRule (h : WR N x9 ft z x2 zk zs fl X fR f fd fk fz) : cdK 3 (s_X11_tryRule_k a z) = (if (s_X12_isRule_r a) = 0 then 1 else (if (s_X12_canTry_r f) = 0 then 2 else 0)) := by
  unfold s_X11_tryRule_k
  rw [can_rel h.2.1, cd_i, cd_i, cd33, cd32, cd0]
  exact it_iff ru_iff
theorem kv_takeBack (h : WR N x9 ft z x2 zk zs fl X fR f fd fk fz) : cdK 2 (s_X11_takeBack_k z) = (if (f 17) = 0 then 1 else 0) := by
  unfold s_X11_takeBack_k
  rw [h.2.1.2.2.2.1.1, cd_i, cd22, cd0]
theorem kv_undo (h : WR N x9 ft z x2 zk zs fl X fR f fd fk fz) : cdK 2 (s_X11_undo_k x2) = (if (X 8) = 0 then 1 else 0) := by
  obtain ⟨c, h5, h6, -, -⟩ := h.2.2.1
  unfold s_X11_undo_k
  rw [h5, h6, cd_i, cd22, cd0]
theorem kv_proposal : cdK 3 (s_X11_proposal_k a b) = (if (s_X12_isRule_r a) = 0 then 1 else (if (s_X12_in_r b.toInt64 0 2) = 0 then 2 else 0)) := by
  unfold s_X11_proposal_k
  rw [k_rng 0 2 0 2 rfl rfl, cd_i, cd_i, cd33, cd31, cd0]
  exact it_iff ru_iff
theorem kv_toleranceFor : cdK 1 (s_X11_toleranceFor_k a) = (if (s_X12_in_r a.toInt64 1 20) = 0 then 1 else 0) := by
  unfold s_X11_toleranceFor_k
  rw [k_rng 1 20 1 20 rfl rfl, cd_i, cd11, cd0]
theorem kv_ahead : cdK 1 (s_X11_ahead_k a b) = (if (s_X12_in_r a.toInt64 0 200) = 0 then 1 else (if (s_X12_in_r b.toInt64 0 4) = 0 then 1 else 0)) := by
  unfold s_X11_ahead_k
  rw [k_rng2 0 200 0 200 rfl rfl, cd_i, cd_i, cd11, cd0]
  exact it_c rfl (it_iff fc_iff)
theorem kv_outcome : cdK 3 (s_X11_outcome_k a b v) = (if (s_X12_isRule_r a) = 0 then 1 else (if (s_X12_in_r b.toInt64 1 200) = 0 then 2 else (if (s_X12_in_r v.toInt64 0 4) = 0 then 2 else 0))) := by
  unfold s_X11_outcome_k
  rw [cd_i, cd_i, cd_i, cd33, cd31, cd0]
  exact (it_iff ru_iff).trans (it_c rfl ((it_iff tk_iff).trans (it_c rfl (it_iff fc_iff))))
theorem kv_bestRule : cdK 1 (s_X11_bestRule_k a z) = (if (s_X12_in_r a.toInt64 1 200) = 0 then 1 else 0) := by
  unfold s_X11_bestRule_k
  by_cases e : s_X11_isTicks_r a = 0
  · rw [if_pos e, if_pos (tk_iff.mp e)]
    exact cd11
  · rw [if_neg e, if_neg (mt tk_iff.mpr e), ite_self]
    exact cd0
theorem kv_settlesAfter : cdK 1 (s_X11_settlesAfter_k a) = (if (s_X12_in_r a.toInt64 0 99) = 0 then 1 else 0) := by
  unfold s_X11_settlesAfter_k
  rw [k_rng 0 99 0 99 rfl rfl, cd_i, cd11, cd0]
theorem kv_runScript : cdK 1 (s_X11_runScript_k a q) = (if (s_X12_in_r a.toInt64 1 3) = 0 then 1 else (if (s_X12_in_r q 0 ((if a = 1 then 100000 else (if a = 2 then 10000000000 else 1000000000000000)) - 1)) = 0 then 1 else 0)) := by
  rw [rs_k, cd_i, cd_i, cd11, cd0]
theorem kv_simulate : cdK 1 (s_X11_simulate_k a) = (if (s_X12_in_r a.toInt64 1 60) = 0 then 1 else 0) := by
  unfold s_X11_simulate_k
  rw [k_rng 1 60 1 60 rfl rfl, cd_i, cd11, cd0]
theorem kv_save : cdK 3 (s_X11_save_k a) = (if (s_X12_in_r a.toInt64 0 1) = 0 then 1 else 0) := by
  unfold s_X11_save_k
  rw [cd_i, cd33, cd0]
  exact it_iff sl_iff
theorem kv_restore (h : WR N x9 ft z x2 zk zs fl X fR f fd fk fz) : cdK 3 (s_X11_restore_k a fl) = (if (s_X12_in_r a.toInt64 0 1) = 0 then 1 else (if (fz (tn a)) = 0 then 2 else 0)) := by
  unfold s_X11_restore_k
  by_cases d0 : s_X11_isSlot_r a = 0
  · rw [if_pos d0, if_pos (sl_iff.mp d0)]
    exact cd33
  · have d := mt sl_iff.mpr d0
    have hk := h.2.2.2.1 (tn a) (slot_in d)
    unfold s_X6_isFilled_r
    try dsimp only
    rw [if_neg d0, if_neg d0, hk.1, if_neg d]
    by_cases e : fz (tn a) = 0
    · rw [show (if fz (tn a) = 0 then (0 : Int32) else 1) = 0 from if_pos e, if_pos rfl, if_pos e]
      exact cd32
    · rw [show (if fz (tn a) = 0 then (0 : Int32) else 1) = 1 from if_neg e, if_neg (by decide), if_neg e]
      exact cd0
theorem ly_append (h : WR N x9 ft z x2 zk zs fl X fR f fd fk fz) (hN : N + 12800 < 2147483648) (k : (s_X11_append_k a x9) = 0) : (s_X11_append_r x9) = (s_X12_append_r a X) ∧ (s_X12_append_w0 a X) 0 = 0 ∧ WR (N + 200) (s_X11_append_w1 x9) (s_X11_append_w2 a x9 ft) z x2 zk zs fl (s_X12_append_w0 a X) (s_X12_append_w1 a X fR) f fd fk fz := by
  obtain ⟨e1, e2, e3⟩ := app_st h k
  exact ⟨e1, e2, e3.mono (by omega)⟩
theorem ln_append (h : WR N x9 ft z x2 zk zs fl X fR f fd fk fz) (k : ¬ (s_X11_append_k a x9) = 0) : (s_X12_append_w0 a X) 0 = cdK 1 (s_X11_append_k a x9) ∧ WR (N + 200) x9 ft z x2 zk zs fl (s_X12_append_w0 a X) (s_X12_append_w1 a X fR) f fd fk fz := by
  have e : (if (s_X12_in_r a.toInt64 0 255) = 0 then 1 else (if (X 2) = 60 then 2 else 0)) = cdK 1 (s_X11_append_k a x9) := (kv_append h).symm
  have n := ref_c (c := 1) k
  unfold s_X12_append_w0 s_X12_append_w1
  try dsimp only
  rw [e, if_neg n, if_neg n]
  exact ⟨upd_at _ _ _, (h.note (upd_ne (by decide)) (upd_ne (by decide))).mono (by omega)⟩
theorem ly_load (h : WR N x9 ft z x2 zk zs fl X fR f fd fk fz) (hN : N + 12800 < 2147483648) (k : (s_X11_load_k x9 ft) = 0) : (s_X11_load_r x9 ft zI) = (s_X12_load_r X fR fr) ∧ (s_X12_load_w0 X fR fr) 0 = 0 ∧ WR (N + 200) (s_X11_load_w1 x9 ft) ft (s_X9_putInto_z (s_X9_read_w0 x9 ft) zI) (s_X11_load_w31 x2) zk zs (s_X11_load_w33 fl) (s_X12_load_w0 X fR fr) fR (s_X12_load_w3 X fR fr f) fd fk (s_X12_load_w4 X fR fr fz) := by
  obtain ⟨e1, e2, e3⟩ := load_st (fr := fr) h k
  exact ⟨e1, e2, e3.mono (by omega)⟩
theorem ln_load (h : WR N x9 ft z x2 zk zs fl X fR f fd fk fz) (k : ¬ (s_X11_load_k x9 ft) = 0) : (s_X12_load_w0 X fR fr) 0 = cdK 2 (s_X11_load_k x9 ft) ∧ WR (N + 200) (s_X11_load_x1 x9 ft) ft z x2 zk zs fl (s_X12_load_w0 X fR fr) fR (s_X12_load_w3 X fR fr f) fd fk (s_X12_load_w4 X fR fr fz) := by
  have e : (if (s_X12_readAll_r X fR fr) = 0 then 1 else 0) = cdK 2 (s_X11_load_k x9 ft) := (kv_load (fr := fr) h).symm
  have n := ref_c (c := 2) k
  obtain ⟨⟨L, h1, h2, h3⟩, h4, ⟨c, h5, h6, h7⟩, h8⟩ := h
  obtain ⟨r1, r2, r3⟩ := read_rel (fr := fr) (X := X) h3 h1 h2
  unfold s_X12_load_w0 s_X12_load_w3 s_X12_load_w4 s_X11_load_x1
  try dsimp only
  rw [e, if_neg n, if_neg n, if_neg n]
  refine ⟨upd_at _ _ _, WR.mono (N := N) ⟨⟨L, r1, (upd_ne (by decide)).trans ((r2 2 (by decide)).trans h2), h3⟩, h4, ⟨c, h5, (upd_ne (by decide)).trans ((r2 8 (by decide)).trans h6), h7⟩, h8⟩ (by omega)⟩
theorem ly_about (h : WR N x9 ft z x2 zk zs fl X fR f fd fk fz) (hN : N + 12800 < 2147483648) (k : (s_X11_about_k a) = 0) : (s_X11_about_r a z) = (s_X12_about_r a f) ∧ (s_X12_about_w0 a X) 0 = 0 ∧ WR (N + 200) x9 ft z x2 zk zs fl (s_X12_about_w0 a X) fR f fd fk fz := by
  have e : ((if (s_X12_in_r a.toInt64 0 19) = 0 then 1 else 0) : Int32) = 0 := by rw [← (kv_about), k]; exact cd0
  have hX : ∀ j, j < 12 → (s_X12_about_w0 a X) j = upd X 0 0 j := by
    intro j hj
    unfold s_X12_about_w0
    try dsimp only
    rw [e, if_pos ref_0]
  refine ⟨?_, (hX 0 (by decide)).trans (upd_at _ _ _), (h.note ((hX 2 (by decide)).trans (upd_ne (by decide))) ((hX 8 (by decide)).trans (upd_ne (by decide)))).mono (by omega)⟩
  unfold s_X12_about_r
  unfold s_X11_about_r
  try dsimp only
  rw [e, if_pos ref_0]
  have d : ¬ s_X12_in_r a.toInt64 0 19 = 0 := fun d => by
    rw [if_pos d] at e
    exact absurd e (by decide)
  exact num_rel h.2.1 (in_vp (n := 20) d (by decide) (by decide))
theorem ln_about (h : WR N x9 ft z x2 zk zs fl X fR f fd fk fz) (k : ¬ (s_X11_about_k a) = 0) : (s_X12_about_w0 a X) 0 = cdK 1 (s_X11_about_k a) ∧ WR (N + 200) x9 ft z x2 zk zs fl (s_X12_about_w0 a X) fR f fd fk fz := by
  have e : (if (s_X12_in_r a.toInt64 0 19) = 0 then 1 else 0) = cdK 1 (s_X11_about_k a) := (kv_about).symm
  have n := ref_c (c := 1) k
  unfold s_X12_about_w0
  try dsimp only
  rw [e, if_neg n]
  exact ⟨upd_at _ _ _, (h.note (upd_ne (by decide)) (upd_ne (by decide))).mono (by omega)⟩
theorem ly_swing (h : WR N x9 ft z x2 zk zs fl X fR f fd fk fz) (hN : N + 12800 < 2147483648) (k : (s_X11_swing_k a b z) = 0) : (s_X11_swing_r a b z) = (s_X12_swing_r a b f) ∧ (s_X12_swing_w0 a b X f) 0 = 0 ∧ WR (N + 200) x9 ft z x2 zk zs fl (s_X12_swing_w0 a b X f) fR f fd fk fz := by
  have e : ((if (s_X12_isSwing_r a f) = 0 then 1 else (if (s_X12_in_r b.toInt64 0 4) = 0 then 2 else 0)) : Int32) = 0 := by rw [← (kv_swing h), k]; exact cd0
  have hX : ∀ j, j < 12 → (s_X12_swing_w0 a b X f) j = upd X 0 0 j := by
    intro j hj
    unfold s_X12_swing_w0
    try dsimp only
    rw [e, if_pos ref_0]
  refine ⟨?_, (hX 0 (by decide)).trans (upd_at _ _ _), (h.note ((hX 2 (by decide)).trans (upd_ne (by decide))) ((hX 8 (by decide)).trans (upd_ne (by decide)))).mono (by omega)⟩
  unfold s_X12_swing_r
  unfold s_X11_swing_r
  try dsimp only
  rw [e, if_pos ref_0]
  have d1 : ¬ s_X12_isSwing_r a f = 0 := fun d => by
    rw [if_pos d] at e
    exact absurd e (by decide)
  rw [if_neg d1] at e
  have d : ¬ s_X12_in_r b.toInt64 0 4 = 0 := fun d => by
    rw [if_pos d] at e
    exact absurd e (by decide)
  exact swn_rel h.2.1 (mt (has_rel h.2.1).mp d1) (in_vp (n := 5) d (by decide) (by decide))
theorem ln_swing (h : WR N x9 ft z x2 zk zs fl X fR f fd fk fz) (k : ¬ (s_X11_swing_k a b z) = 0) : (s_X12_swing_w0 a b X f) 0 = cdK 3 (s_X11_swing_k a b z) ∧ WR (N + 200) x9 ft z x2 zk zs fl (s_X12_swing_w0 a b X f) fR f fd fk fz := by
  have e : (if (s_X12_isSwing_r a f) = 0 then 1 else (if (s_X12_in_r b.toInt64 0 4) = 0 then 2 else 0)) = cdK 3 (s_X11_swing_k a b z) := (kv_swing h).symm
  have n := ref_c (c := 3) k
  unfold s_X12_swing_w0
  try dsimp only
  rw [e, if_neg n]
  exact ⟨upd_at _ _ _, (h.note (upd_ne (by decide)) (upd_ne (by decide))).mono (by omega)⟩
theorem ly_account (h : WR N x9 ft z x2 zk zs fl X fR f fd fk fz) (hN : N + 12800 < 2147483648) (k : (s_X11_account_k a) = 0) : (s_X11_account_r a z) = (s_X12_account_r a f) ∧ (s_X12_account_w0 a X) 0 = 0 ∧ WR (N + 200) x9 ft z x2 zk zs fl (s_X12_account_w0 a X) fR f fd fk fz := by
  have e : ((if (s_X12_in_r a.toInt64 0 6) = 0 then 1 else 0) : Int32) = 0 := by rw [← (kv_account), k]; exact cd0
  have hX : ∀ j, j < 12 → (s_X12_account_w0 a X) j = upd X 0 0 j := by
    intro j hj
    unfold s_X12_account_w0
    try dsimp only
    rw [e]
  refine ⟨?_, (hX 0 (by decide)).trans (upd_at _ _ _), (h.note ((hX 2 (by decide)).trans (upd_ne (by decide))) ((hX 8 (by decide)).trans (upd_ne (by decide)))).mono (by omega)⟩
  unfold s_X12_account_r
  unfold s_X11_account_r
  try dsimp only
  rw [e, if_pos ref_0]
  have d : ¬ s_X12_in_r a.toInt64 0 6 = 0 := fun d => by
    rw [if_pos d] at e
    exact absurd e (by decide)
  exact acc_rel h.2.1 (in_vp (n := 7) d (by decide) (by decide))
theorem ln_account (h : WR N x9 ft z x2 zk zs fl X fR f fd fk fz) (k : ¬ (s_X11_account_k a) = 0) : (s_X12_account_w0 a X) 0 = cdK 1 (s_X11_account_k a) ∧ WR (N + 200) x9 ft z x2 zk zs fl (s_X12_account_w0 a X) fR f fd fk fz := by
  have e : (if (s_X12_in_r a.toInt64 0 6) = 0 then 1 else 0) = cdK 1 (s_X11_account_k a) := (kv_account).symm
  have n := ref_c (c := 1) k
  unfold s_X12_account_w0
  try dsimp only
  rw [e]
  exact ⟨upd_at _ _ _, (h.note (upd_ne (by decide)) (upd_ne (by decide))).mono (by omega)⟩
theorem ly_tick (h : WR N x9 ft z x2 zk zs fl X fR f fd fk fz) (hN : N + 12800 < 2147483648) (k : (s_X11_tick_k a) = 0) : (s_X11_tick_r a z) = (s_X12_tick_r a f) ∧ (s_X12_tick_w0 a X) 0 = 0 ∧ WR (N + 200) x9 ft (s_X7_pass_z a z) (upd x2 1 (nI (rmC (tn (x2 1)) + 1))) (uK (rmT (tn (x2 1)) zk) (rmC (tn (x2 1))) z) zs fl (s_X12_tick_w0 a X) fR (s_X12_tick_w1 a f) (s_X12_tick_w2 a X f fd) fk fz := by
  exact tick_step h (by omega) k
theorem ln_tick (h : WR N x9 ft z x2 zk zs fl X fR f fd fk fz) (k : ¬ (s_X11_tick_k a) = 0) : (s_X12_tick_w0 a X) 0 = cdK 1 (s_X11_tick_k a) ∧ WR (N + 200) x9 ft z x2 zk zs fl (s_X12_tick_w0 a X) fR (s_X12_tick_w1 a f) (s_X12_tick_w2 a X f fd) fk fz := by
  have e : (if (s_X12_in_r a.toInt64 1 200) = 0 then 1 else 0) = cdK 1 (s_X11_tick_k a) := (kv_tick).symm
  have n := ref_c (c := 1) k
  unfold s_X12_tick_w0 s_X12_tick_w1 s_X12_tick_w2
  try dsimp only
  rw [e, if_neg n, if_neg n, if_neg n]
  exact ⟨upd_at _ _ _, (h.note (upd_ne (by decide)) (upd_ne (by decide))).mono (by omega)⟩
theorem ly_mode (h : WR N x9 ft z x2 zk zs fl X fR f fd fk fz) (hN : N + 12800 < 2147483648) (k : (s_X11_mode_k a) = 0) : (s_X11_mode_r z) = (s_X12_mode_r a f) ∧ (s_X12_mode_w0 a X) 0 = 0 ∧ WR (N + 200) x9 ft (s_X7_changeMode_z a z) (upd x2 1 (nI (rmC (tn (x2 1)) + 1))) (uK (rmT (tn (x2 1)) zk) (rmC (tn (x2 1))) z) zs fl (s_X12_mode_w0 a X) fR (s_X12_mode_w1 a f) (s_X12_mode_w2 a X f fd) fk fz := by
  obtain ⟨e2, hz, e3⟩ := mode_st h k
  refine ⟨?_, e2, e3.mono (by omega)⟩
  have e : ((if (s_X12_isMode_r a) = 0 then 1 else 0) : Int32) = 0 := by rw [← (kv_mode), k]; exact cd0
  unfold s_X12_mode_r
  try dsimp only
  rw [e, if_pos ref_0]
  unfold s_X11_mode_r
  exact h.2.1.2.1.2.1
theorem ln_mode (h : WR N x9 ft z x2 zk zs fl X fR f fd fk fz) (k : ¬ (s_X11_mode_k a) = 0) : (s_X12_mode_w0 a X) 0 = cdK 1 (s_X11_mode_k a) ∧ WR (N + 200) x9 ft z x2 zk zs fl (s_X12_mode_w0 a X) fR (s_X12_mode_w1 a f) (s_X12_mode_w2 a X f fd) fk fz := by
  have e : (if (s_X12_isMode_r a) = 0 then 1 else 0) = cdK 1 (s_X11_mode_k a) := (kv_mode).symm
  have n := ref_c (c := 1) k
  unfold s_X12_mode_w0 s_X12_mode_w1 s_X12_mode_w2
  try dsimp only
  rw [e, if_neg n, if_neg n, if_neg n]
  exact ⟨upd_at _ _ _, (h.note (upd_ne (by decide)) (upd_ne (by decide))).mono (by omega)⟩
theorem ly_set (h : WR N x9 ft z x2 zk zs fl X fR f fd fk fz) (hN : N + 12800 < 2147483648) (k : (s_X11_set_k a b) = 0) : (s_X11_set_r a z) = (s_X12_set_r a b f) ∧ (s_X12_set_w0 a b X) 0 = 0 ∧ WR (N + 200) x9 ft (s_X7_put_z a b z) (upd x2 1 (nI (rmC (tn (x2 1)) + 1))) (uK (rmT (tn (x2 1)) zk) (rmC (tn (x2 1))) z) zs fl (s_X12_set_w0 a b X) fR (s_X12_set_w1 a b f) (s_X12_set_w2 a b X f fd) fk fz := by
  obtain ⟨e2, hz, e3⟩ := set_st h k
  refine ⟨?_, e2, e3.mono (by omega)⟩
  have e : ((if (s_X12_isSetting_r a b) = 0 then 1 else 0) : Int32) = 0 := by rw [← (kv_set), k]; exact cd0
  unfold s_X12_set_r
  try dsimp only
  rw [e, if_pos ref_0]
  unfold s_X11_set_r
  have d : ¬ s_X12_isSetting_r a b = 0 := fun d => by
    rw [if_pos d] at e
    exact absurd e (by decide)
  obtain ⟨j, j1, j2⟩ := set_place (mt st_iff.mp d)
  have hc := h.2.1.2.1.1
  obtain ⟨c1, c2, c3, c4, c5, c6⟩ := hc
  obtain ⟨j3, j4⟩ := j2
  rw [tn_of j1 (by omega)]
  rcases (show j = 5 ∨ j = 6 ∨ j = 7 ∨ j = 8 ∨ j = 9 ∨ j = 10 by omega) with rfl | rfl | rfl | rfl | rfl | rfl <;> subst j1
  · exact c1
  · exact c2
  · exact c3
  · exact c4
  · exact c5
  · exact c6
theorem ln_set (h : WR N x9 ft z x2 zk zs fl X fR f fd fk fz) (k : ¬ (s_X11_set_k a b) = 0) : (s_X12_set_w0 a b X) 0 = cdK 1 (s_X11_set_k a b) ∧ WR (N + 200) x9 ft z x2 zk zs fl (s_X12_set_w0 a b X) fR (s_X12_set_w1 a b f) (s_X12_set_w2 a b X f fd) fk fz := by
  have e : (if (s_X12_isSetting_r a b) = 0 then 1 else 0) = cdK 1 (s_X11_set_k a b) := (kv_set).symm
  have n := ref_c (c := 1) k
  unfold s_X12_set_w0 s_X12_set_w1 s_X12_set_w2
  try dsimp only
  rw [e, if_neg n, if_neg n, if_neg n]
  exact ⟨upd_at _ _ _, (h.note (upd_ne (by decide)) (upd_ne (by decide))).mono (by omega)⟩
theorem ly_disturb (h : WR N x9 ft z x2 zk zs fl X fR f fd fk fz) (hN : N + 12800 < 2147483648) (k : (s_X11_disturb_k a) = 0) : (s_X11_disturb_r a z) = (s_X12_disturb_r a f) ∧ (s_X12_disturb_w0 a X) 0 = 0 ∧ WR (N + 200) x9 ft (s_X7_push_z a z) (upd x2 1 (nI (rmC (tn (x2 1)) + 1))) (uK (rmT (tn (x2 1)) zk) (rmC (tn (x2 1))) z) zs fl (s_X12_disturb_w0 a X) fR (s_X12_disturb_w1 a f) (s_X12_disturb_w2 a X f fd) fk fz := by
  obtain ⟨e2, hz, e3⟩ := dist_st h k
  refine ⟨?_, e2, e3.mono (by omega)⟩
  have e : ((if (s_X12_in_r a.toInt64 (-500) 500) = 0 then 1 else 0) : Int32) = 0 := by rw [← (kv_disturb), k]; exact cd0
  unfold s_X12_disturb_r
  try dsimp only
  rw [e, if_pos ref_0]
  unfold s_X11_disturb_r
  unfold s_X12_disturb_w1 at hz
  try dsimp only at hz
  rw [e, if_pos ref_0] at hz
  exact hz.1.2.2.1
theorem ln_disturb (h : WR N x9 ft z x2 zk zs fl X fR f fd fk fz) (k : ¬ (s_X11_disturb_k a) = 0) : (s_X12_disturb_w0 a X) 0 = cdK 1 (s_X11_disturb_k a) ∧ WR (N + 200) x9 ft z x2 zk zs fl (s_X12_disturb_w0 a X) fR (s_X12_disturb_w1 a f) (s_X12_disturb_w2 a X f fd) fk fz := by
  have e : (if (s_X12_in_r a.toInt64 (-500) 500) = 0 then 1 else 0) = cdK 1 (s_X11_disturb_k a) := (kv_disturb).symm
  have n := ref_c (c := 1) k
  unfold s_X12_disturb_w0 s_X12_disturb_w1 s_X12_disturb_w2
  try dsimp only
  rw [e, if_neg n, if_neg n, if_neg n]
  exact ⟨upd_at _ _ _, (h.note (upd_ne (by decide)) (upd_ne (by decide))).mono (by omega)⟩
theorem ly_discard (h : WR N x9 ft z x2 zk zs fl X fR f fd fk fz) (hN : N + 12800 < 2147483648) (k : (s_X11_discard_k a z) = 0) : (s_X11_discard_r a z) = (s_X12_discard_r a f) ∧ (s_X12_discard_w0 a X f) 0 = 0 ∧ WR (N + 200) x9 ft (s_X11_discard_z a z) (upd x2 1 (nI (rmC (tn (x2 1)) + 1))) (uK (rmT (tn (x2 1)) zk) (rmC (tn (x2 1))) z) zs fl (s_X12_discard_w0 a X f) fR (s_X12_discard_w1 a f) (s_X12_discard_w2 a X f fd) fk fz := by
  obtain ⟨e1, e2, e3⟩ := disc_st h k
  exact ⟨e1, e2, e3.mono (by omega)⟩
theorem ln_discard (h : WR N x9 ft z x2 zk zs fl X fR f fd fk fz) (k : ¬ (s_X11_discard_k a z) = 0) : (s_X12_discard_w0 a X f) 0 = cdK 3 (s_X11_discard_k a z) ∧ WR (N + 200) x9 ft z x2 zk zs fl (s_X12_discard_w0 a X f) fR (s_X12_discard_w1 a f) (s_X12_discard_w2 a X f fd) fk fz := by
  have e : (if (s_X12_isSwing_r a f) = 0 then 1 else 0) = cdK 3 (s_X11_discard_k a z) := (kv_discard h).symm
  have n := ref_c (c := 3) k
  unfold s_X12_discard_w0 s_X12_discard_w1 s_X12_discard_w2
  try dsimp only
  rw [e, if_neg n, if_neg n, if_neg n]
  exact ⟨upd_at _ _ _, (h.note (upd_ne (by decide)) (upd_ne (by decide))).mono (by omega)⟩
theorem ly_tryRule (h : WR N x9 ft z x2 zk zs fl X fR f fd fk fz) (hN : N + 12800 < 2147483648) (k : (s_X11_tryRule_k a z) = 0) : (s_X11_tryRule_r a z) = (s_X12_tryRule_r a f) ∧ (s_X12_tryRule_w0 a X f) 0 = 0 ∧ WR (N + 200) x9 ft (s_X7_beginTrial_z a z) (upd x2 1 (nI (rmC (tn (x2 1)) + 1))) (uK (rmT (tn (x2 1)) zk) (rmC (tn (x2 1))) z) zs fl (s_X12_tryRule_w0 a X f) fR (s_X12_tryRule_w1 a f) (s_X12_tryRule_w2 a X f fd) fk fz := by
  obtain ⟨e2, hz, e3⟩ := try_st h k
  refine ⟨?_, e2, e3.mono (by omega)⟩
  have e : ((if (s_X12_isRule_r a) = 0 then 1 else (if (s_X12_canTry_r f) = 0 then 2 else 0)) : Int32) = 0 := by rw [← (kv_tryRule h), k]; exact cd0
  unfold s_X12_tryRule_r
  try dsimp only
  rw [e, if_pos ref_0]
  unfold s_X11_tryRule_r
  unfold s_X12_tryRule_w1 at hz
  try dsimp only at hz
  rw [e, if_pos ref_0] at hz
  exact hz.2.1.1.2.2.2.1
theorem ln_tryRule (h : WR N x9 ft z x2 zk zs fl X fR f fd fk fz) (k : ¬ (s_X11_tryRule_k a z) = 0) : (s_X12_tryRule_w0 a X f) 0 = cdK 3 (s_X11_tryRule_k a z) ∧ WR (N + 200) x9 ft z x2 zk zs fl (s_X12_tryRule_w0 a X f) fR (s_X12_tryRule_w1 a f) (s_X12_tryRule_w2 a X f fd) fk fz := by
  have e : (if (s_X12_isRule_r a) = 0 then 1 else (if (s_X12_canTry_r f) = 0 then 2 else 0)) = cdK 3 (s_X11_tryRule_k a z) := (kv_tryRule h).symm
  have n := ref_c (c := 3) k
  unfold s_X12_tryRule_w0 s_X12_tryRule_w1 s_X12_tryRule_w2
  try dsimp only
  rw [e, if_neg n, if_neg n, if_neg n]
  exact ⟨upd_at _ _ _, (h.note (upd_ne (by decide)) (upd_ne (by decide))).mono (by omega)⟩
theorem ly_takeBack (h : WR N x9 ft z x2 zk zs fl X fR f fd fk fz) (hN : N + 12800 < 2147483648) (k : (s_X11_takeBack_k z) = 0) : (s_X11_takeBack_r z) = (s_X12_takeBack_r f) ∧ (s_X12_takeBack_w0 X f) 0 = 0 ∧ WR (N + 200) x9 ft (s_X7_endTrial_z z) (upd x2 1 (nI (rmC (tn (x2 1)) + 1))) (uK (rmT (tn (x2 1)) zk) (rmC (tn (x2 1))) z) zs fl (s_X12_takeBack_w0 X f) fR (s_X12_takeBack_w1 f) (s_X12_takeBack_w2 X f fd) fk fz := by
  obtain ⟨e1, e2, e3⟩ := back_st h k
  exact ⟨e1, e2, e3.mono (by omega)⟩
theorem ln_takeBack (h : WR N x9 ft z x2 zk zs fl X fR f fd fk fz) (k : ¬ (s_X11_takeBack_k z) = 0) : (s_X12_takeBack_w0 X f) 0 = cdK 2 (s_X11_takeBack_k z) ∧ WR (N + 200) x9 ft z x2 zk zs fl (s_X12_takeBack_w0 X f) fR (s_X12_takeBack_w1 f) (s_X12_takeBack_w2 X f fd) fk fz := by
  have e : (if (f 17) = 0 then 1 else 0) = cdK 2 (s_X11_takeBack_k z) := (kv_takeBack h).symm
  have n := ref_c (c := 2) k
  unfold s_X12_takeBack_w0 s_X12_takeBack_w1 s_X12_takeBack_w2
  try dsimp only
  rw [e, if_neg n, if_neg n, if_neg n]
  exact ⟨upd_at _ _ _, (h.note (upd_ne (by decide)) (upd_ne (by decide))).mono (by omega)⟩
theorem ly_undo (h : WR N x9 ft z x2 zk zs fl X fR f fd fk fz) (hN : N + 12800 < 2147483648) (k : (s_X11_undo_k x2) = 0) : (s_X11_undo_r x2) = (s_X12_undo_r X) ∧ (s_X12_undo_w0 X) 0 = 0 ∧ WR (N + 200) x9 ft (zk (tn (x2 1) - 1)) (s_X11_undo_w1 x2) zk zs fl (s_X12_undo_w0 X) fR (s_X12_undo_w1 X f fd) fd fk fz := by
  obtain ⟨e1, e2, e3⟩ := undo_st h k
  exact ⟨e1, e2, e3.mono (by omega)⟩
theorem ln_undo (h : WR N x9 ft z x2 zk zs fl X fR f fd fk fz) (k : ¬ (s_X11_undo_k x2) = 0) : (s_X12_undo_w0 X) 0 = cdK 2 (s_X11_undo_k x2) ∧ WR (N + 200) x9 ft z x2 zk zs fl (s_X12_undo_w0 X) fR (s_X12_undo_w1 X f fd) fd fk fz := by
  have e : (if (X 8) = 0 then 1 else 0) = cdK 2 (s_X11_undo_k x2) := (kv_undo h).symm
  have n := ref_c (c := 2) k
  unfold s_X12_undo_w0 s_X12_undo_w1
  try dsimp only
  rw [e, if_neg n, if_neg n]
  exact ⟨upd_at _ _ _, (h.note (upd_ne (by decide)) (upd_ne (by decide))).mono (by omega)⟩
theorem ly_proposal (h : WR N x9 ft z x2 zk zs fl X fR f fd fk fz) (hN : N + 12800 < 2147483648) (k : (s_X11_proposal_k a b) = 0) : (s_X11_proposal_r a b z) = (s_X12_proposal_r a b f) ∧ (s_X12_proposal_w0 a b X) 0 = 0 ∧ WR (N + 200) x9 ft z x2 zk zs fl (s_X12_proposal_w0 a b X) fR f fd fk fz := by
  have e : ((if (s_X12_isRule_r a) = 0 then 1 else (if (s_X12_in_r b.toInt64 0 2) = 0 then 2 else 0)) : Int32) = 0 := by rw [← (kv_proposal), k]; exact cd0
  have hX : ∀ j, j < 12 → (s_X12_proposal_w0 a b X) j = upd X 0 0 j := by
    intro j hj
    unfold s_X12_proposal_w0
    try dsimp only
    rw [e, if_pos ref_0]
  refine ⟨?_, (hX 0 (by decide)).trans (upd_at _ _ _), (h.note ((hX 2 (by decide)).trans (upd_ne (by decide))) ((hX 8 (by decide)).trans (upd_ne (by decide)))).mono (by omega)⟩
  unfold s_X12_proposal_r
  unfold s_X11_proposal_r
  try dsimp only
  rw [e, if_pos ref_0]
  have d1 : ¬ s_X12_isRule_r a = 0 := fun d => by
    rw [if_pos d] at e
    exact absurd e (by decide)
  rw [if_neg d1] at e
  have d : ¬ s_X12_in_r b.toInt64 0 2 = 0 := fun d => by
    rw [if_pos d] at e
    exact absurd e (by decide)
  by_cases hg : goodP f = 0
  · rw [if_pos ((gn0 h.2.1).mpr hg)]
    unfold s_X7_proposed_r
    rw [gd_rel h.2.1, if_pos hg, if_pos (by decide)]
  · rw [if_neg (mt (gn0 h.2.1).mp hg)]
    exact prop_rel h.2.1 hg (rule_in (mt ru_iff.mp d1)) (in_vp (n := 3) d (by decide) (by decide))
theorem ln_proposal (h : WR N x9 ft z x2 zk zs fl X fR f fd fk fz) (k : ¬ (s_X11_proposal_k a b) = 0) : (s_X12_proposal_w0 a b X) 0 = cdK 3 (s_X11_proposal_k a b) ∧ WR (N + 200) x9 ft z x2 zk zs fl (s_X12_proposal_w0 a b X) fR f fd fk fz := by
  have e : (if (s_X12_isRule_r a) = 0 then 1 else (if (s_X12_in_r b.toInt64 0 2) = 0 then 2 else 0)) = cdK 3 (s_X11_proposal_k a b) := (kv_proposal).symm
  have n := ref_c (c := 3) k
  unfold s_X12_proposal_w0
  try dsimp only
  rw [e, if_neg n]
  exact ⟨upd_at _ _ _, (h.note (upd_ne (by decide)) (upd_ne (by decide))).mono (by omega)⟩
theorem ly_toleranceFor (h : WR N x9 ft z x2 zk zs fl X fR f fd fk fz) (hN : N + 12800 < 2147483648) (k : (s_X11_toleranceFor_k a) = 0) : (s_X11_toleranceFor_r a z) = (s_X12_toleranceFor_r a f) ∧ (s_X12_toleranceFor_w0 a X) 0 = 0 ∧ WR (N + 200) x9 ft z x2 zk zs fl (s_X12_toleranceFor_w0 a X) fR f fd fk fz := by
  have e : ((if (s_X12_in_r a.toInt64 1 20) = 0 then 1 else 0) : Int32) = 0 := by rw [← (kv_toleranceFor), k]; exact cd0
  have hX : ∀ j, j < 12 → (s_X12_toleranceFor_w0 a X) j = upd X 0 0 j := by
    intro j hj
    unfold s_X12_toleranceFor_w0
    try dsimp only
    rw [e]
  refine ⟨?_, (hX 0 (by decide)).trans (upd_at _ _ _), (h.note ((hX 2 (by decide)).trans (upd_ne (by decide))) ((hX 8 (by decide)).trans (upd_ne (by decide)))).mono (by omega)⟩
  unfold s_X12_toleranceFor_r
  unfold s_X11_toleranceFor_r
  try dsimp only
  rw [e, if_pos ref_0]
  exact tol_rel h.2.1
theorem ln_toleranceFor (h : WR N x9 ft z x2 zk zs fl X fR f fd fk fz) (k : ¬ (s_X11_toleranceFor_k a) = 0) : (s_X12_toleranceFor_w0 a X) 0 = cdK 1 (s_X11_toleranceFor_k a) ∧ WR (N + 200) x9 ft z x2 zk zs fl (s_X12_toleranceFor_w0 a X) fR f fd fk fz := by
  have e : (if (s_X12_in_r a.toInt64 1 20) = 0 then 1 else 0) = cdK 1 (s_X11_toleranceFor_k a) := (kv_toleranceFor).symm
  have n := ref_c (c := 1) k
  unfold s_X12_toleranceFor_w0
  try dsimp only
  rw [e]
  exact ⟨upd_at _ _ _, (h.note (upd_ne (by decide)) (upd_ne (by decide))).mono (by omega)⟩
theorem ly_ahead (h : WR N x9 ft z x2 zk zs fl X fR f fd fk fz) (hN : N + 12800 < 2147483648) (k : (s_X11_ahead_k a b) = 0) : (s_X11_ahead_r a b z) = (s_X12_ahead_r a b f) ∧ (s_X12_ahead_w0 a b X f) 0 = 0 ∧ WR (N + 200) x9 ft z x2 zk zs fl (s_X12_ahead_w0 a b X f) fR f fd fk fz := by
  have e : ((if (s_X12_in_r a.toInt64 0 200) = 0 then 1 else (if (s_X12_in_r b.toInt64 0 4) = 0 then 1 else 0)) : Int32) = 0 := by rw [← (kv_ahead), k]; exact cd0
  have hX : ∀ j, j < 12 → (s_X12_ahead_w0 a b X f) j = upd X 0 0 j := by
    intro j hj
    unfold s_X12_ahead_w0
    try dsimp only
    rw [e, if_pos ref_0, upd_ne (by omega), upd_ne (by omega), upd_ne (by omega)]
  refine ⟨?_, (hX 0 (by decide)).trans (upd_at _ _ _), (h.note ((hX 2 (by decide)).trans (upd_ne (by decide))) ((hX 8 (by decide)).trans (upd_ne (by decide)))).mono (by omega)⟩
  unfold s_X12_ahead_r
  unfold s_X11_ahead_r
  try dsimp only
  rw [e, if_pos ref_0]
  have d1 : ¬ s_X12_in_r a.toInt64 0 200 = 0 := fun d => by
    rw [if_pos d] at e
    exact absurd e (by decide)
  have d2 := (in_tn (in_vp (n := 201) d1 (by decide) (by decide)) (by decide)).2
  exact fore_rel h.2.1 (by omega)
theorem ln_ahead (h : WR N x9 ft z x2 zk zs fl X fR f fd fk fz) (k : ¬ (s_X11_ahead_k a b) = 0) : (s_X12_ahead_w0 a b X f) 0 = cdK 1 (s_X11_ahead_k a b) ∧ WR (N + 200) x9 ft z x2 zk zs fl (s_X12_ahead_w0 a b X f) fR f fd fk fz := by
  have e : (if (s_X12_in_r a.toInt64 0 200) = 0 then 1 else (if (s_X12_in_r b.toInt64 0 4) = 0 then 1 else 0)) = cdK 1 (s_X11_ahead_k a b) := (kv_ahead).symm
  have n := ref_c (c := 1) k
  unfold s_X12_ahead_w0
  try dsimp only
  rw [e, if_neg n]
  exact ⟨upd_at _ _ _, (h.note (upd_ne (by decide)) (upd_ne (by decide))).mono (by omega)⟩
theorem ly_outcome (h : WR N x9 ft z x2 zk zs fl X fR f fd fk fz) (hN : N + 12800 < 2147483648) (k : (s_X11_outcome_k a b v) = 0) : (s_X11_outcome_r a b v z) = (s_X12_outcome_r a b v f) ∧ (s_X12_outcome_w0 a b v X f) 0 = 0 ∧ WR (N + 200) x9 ft z x2 zk zs fl (s_X12_outcome_w0 a b v X f) fR f fd fk fz := by
  have e : ((if (s_X12_isRule_r a) = 0 then 1 else (if (s_X12_in_r b.toInt64 1 200) = 0 then 2 else (if (s_X12_in_r v.toInt64 0 4) = 0 then 2 else 0))) : Int32) = 0 := by rw [← (kv_outcome), k]; exact cd0
  have hX : ∀ j, j < 12 → (s_X12_outcome_w0 a b v X f) j = upd X 0 0 j := by
    intro j hj
    unfold s_X12_outcome_w0
    try dsimp only
    rw [e, if_pos ref_0]
    by_cases g : nI (goodP f) = 0
    · rw [if_pos g]
    · rw [if_neg g]
      exact outc_low hj
  refine ⟨?_, (hX 0 (by decide)).trans (upd_at _ _ _), (h.note ((hX 2 (by decide)).trans (upd_ne (by decide))) ((hX 8 (by decide)).trans (upd_ne (by decide)))).mono (by omega)⟩
  unfold s_X12_outcome_r
  unfold s_X11_outcome_r
  try dsimp only
  rw [e, if_pos ref_0]
  have d1 : ¬ s_X12_isRule_r a = 0 := fun d => by
    rw [if_pos d] at e
    exact absurd e (by decide)
  rw [if_neg d1] at e
  have d : ¬ s_X12_in_r b.toInt64 1 200 = 0 := fun d => by
    rw [if_pos d] at e
    exact absurd e (by decide)
  have d2 := (in_tn (in_vp (n := 201) d (by decide) (by decide)) (by decide)).2
  by_cases hg : goodP f = 0
  · rw [if_pos ((gn0 h.2.1).mpr hg)]
    unfold s_X11_outcomeOf_r
    rw [if_pos ((good_0 h.2.1).mpr hg)]
  · rw [if_neg (mt (gn0 h.2.1).mp hg)]
    exact out_of h.2.1 hg (rule_in (mt ru_iff.mp d1)) (by omega)
theorem ln_outcome (h : WR N x9 ft z x2 zk zs fl X fR f fd fk fz) (k : ¬ (s_X11_outcome_k a b v) = 0) : (s_X12_outcome_w0 a b v X f) 0 = cdK 3 (s_X11_outcome_k a b v) ∧ WR (N + 200) x9 ft z x2 zk zs fl (s_X12_outcome_w0 a b v X f) fR f fd fk fz := by
  have e : (if (s_X12_isRule_r a) = 0 then 1 else (if (s_X12_in_r b.toInt64 1 200) = 0 then 2 else (if (s_X12_in_r v.toInt64 0 4) = 0 then 2 else 0))) = cdK 3 (s_X11_outcome_k a b v) := (kv_outcome).symm
  have n := ref_c (c := 3) k
  unfold s_X12_outcome_w0
  try dsimp only
  rw [e, if_neg n]
  exact ⟨upd_at _ _ _, (h.note (upd_ne (by decide)) (upd_ne (by decide))).mono (by omega)⟩
theorem ly_bestRule (h : WR N x9 ft z x2 zk zs fl X fR f fd fk fz) (hN : N + 12800 < 2147483648) (k : (s_X11_bestRule_k a z) = 0) : (s_X11_bestRule_r a z) = (s_X12_bestRule_r a f) ∧ (scX (upd X 0 (if (s_X12_in_r a.toInt64 1 200) = 0 then 1 else 0)) sx) 0 = 0 ∧ WR (N + 200) x9 ft z x2 zk zs fl (scX (upd X 0 (if (s_X12_in_r a.toInt64 1 200) = 0 then 1 else 0)) sx) fR f fd fk fz := by
  have e : ((if (s_X12_in_r a.toInt64 1 200) = 0 then 1 else 0) : Int32) = 0 := by rw [← (kv_bestRule (z := z)), k]; exact cd0
  have hX : ∀ j, j < 12 → (scX (upd X 0 (if (s_X12_in_r a.toInt64 1 200) = 0 then 1 else 0)) sx) j = upd X 0 0 j := by
    intro j hj
    unfold scX
    rw [if_pos hj, e]
  refine ⟨?_, (hX 0 (by decide)).trans (upd_at _ _ _), (h.note ((hX 2 (by decide)).trans (upd_ne (by decide))) ((hX 8 (by decide)).trans (upd_ne (by decide)))).mono (by omega)⟩
  unfold s_X12_bestRule_r
  try dsimp only
  rw [e, if_pos ref_0]
  have d : ¬ s_X12_in_r a.toInt64 1 200 = 0 := fun d => by
    rw [if_pos d] at e
    exact absurd e (by decide)
  have d2 := (in_tn (in_vp (n := 201) d (by decide) (by decide)) (by decide)).2
  by_cases hg : goodP f = 0
  · rw [if_pos (show nI (goodP f) ≤ 0 by rw [hg]; decide)]
    unfold s_X11_bestRule_r
    rw [if_pos ((good_0 h.2.1).mpr hg)]
  · rw [if_neg (fun e9 => by
      have e9 := Int32.le_iff_toInt_le.mp e9
      rw [nI_toInt (by have := good_21 h.2.1; omega)] at e9
      have t0 : (0 : Int32).toInt = 0 := rfl
      omega)]
    exact best_rel h.2.1 hg (by omega)
theorem ln_bestRule (h : WR N x9 ft z x2 zk zs fl X fR f fd fk fz) (k : ¬ (s_X11_bestRule_k a z) = 0) : (scX (upd X 0 (if (s_X12_in_r a.toInt64 1 200) = 0 then 1 else 0)) sx) 0 = cdK 1 (s_X11_bestRule_k a z) ∧ WR (N + 200) x9 ft z x2 zk zs fl (scX (upd X 0 (if (s_X12_in_r a.toInt64 1 200) = 0 then 1 else 0)) sx) fR f fd fk fz := by
  have e : (if (s_X12_in_r a.toInt64 1 200) = 0 then 1 else 0) = cdK 1 (s_X11_bestRule_k a z) := (kv_bestRule (z := z)).symm
  have n := ref_c (c := 1) k
  have hX : ∀ j, j < 12 → (scX (upd X 0 (if (s_X12_in_r a.toInt64 1 200) = 0 then 1 else 0)) sx) j = upd X 0 (cdK 1 (s_X11_bestRule_k a z)) j := by
    intro j hj
    unfold scX
    rw [if_pos hj, e]
  exact ⟨(hX 0 (by decide)).trans (upd_at _ _ _), (h.note ((hX 2 (by decide)).trans (upd_ne (by decide))) ((hX 8 (by decide)).trans (upd_ne (by decide)))).mono (by omega)⟩
theorem ly_settlesAfter {n2 : Nat} (h : WR N x9 ft z x2 zk zs fl X fR f fd fk fz) (hN : N + 12800 < 2147483648) (hn2 : n2 = 200) (k : (s_X11_settlesAfter_k a) = 0) : (s_X11_settlesAfter_r a z n2) = (s_X12_settlesAfter_r a f) ∧ (s_X12_settlesAfter_w0 a X) 0 = 0 ∧ WR (N + 200) x9 ft z x2 zk zs fl (s_X12_settlesAfter_w0 a X) fR f fd fk fz := by
  have e : ((if (s_X12_in_r a.toInt64 0 99) = 0 then 1 else 0) : Int32) = 0 := by rw [← (kv_settlesAfter), k]; exact cd0
  have hX : ∀ j, j < 12 → (s_X12_settlesAfter_w0 a X) j = upd X 0 0 j := by
    intro j hj
    unfold s_X12_settlesAfter_w0
    try dsimp only
    rw [e]
  refine ⟨?_, (hX 0 (by decide)).trans (upd_at _ _ _), (h.note ((hX 2 (by decide)).trans (upd_ne (by decide))) ((hX 8 (by decide)).trans (upd_ne (by decide)))).mono (by omega)⟩
  unfold s_X12_settlesAfter_r
  unfold s_X11_settlesAfter_r
  try dsimp only
  rw [e, if_pos ref_0]
  exact settle_rel h.2.1 hn2 (by omega)
theorem ln_settlesAfter (h : WR N x9 ft z x2 zk zs fl X fR f fd fk fz) (k : ¬ (s_X11_settlesAfter_k a) = 0) : (s_X12_settlesAfter_w0 a X) 0 = cdK 1 (s_X11_settlesAfter_k a) ∧ WR (N + 200) x9 ft z x2 zk zs fl (s_X12_settlesAfter_w0 a X) fR f fd fk fz := by
  have e : (if (s_X12_in_r a.toInt64 0 99) = 0 then 1 else 0) = cdK 1 (s_X11_settlesAfter_k a) := (kv_settlesAfter).symm
  have n := ref_c (c := 1) k
  unfold s_X12_settlesAfter_w0
  try dsimp only
  rw [e]
  exact ⟨upd_at _ _ _, (h.note (upd_ne (by decide)) (upd_ne (by decide))).mono (by omega)⟩
theorem ly_runScript (h : WR N x9 ft z x2 zk zs fl X fR f fd fk fz) (hN : N + 12800 < 2147483648) (k : (s_X11_runScript_k a q) = 0) : (s_X11_runScript_r a q z) = (s_X12_runScript_r a q f) ∧ (s_X12_runScript_w0 a q X) 0 = 0 ∧ WR (N + 200) x9 ft z x2 zk zs fl (s_X12_runScript_w0 a q X) fR f fd fk fz := by
  have e : ((if (s_X12_in_r a.toInt64 1 3) = 0 then 1 else (if (s_X12_in_r q 0 ((if a = 1 then 100000 else (if a = 2 then 10000000000 else 1000000000000000)) - 1)) = 0 then 1 else 0)) : Int32) = 0 := by rw [← (kv_runScript), k]; exact cd0
  have hX : ∀ j, j < 12 → (s_X12_runScript_w0 a q X) j = upd X 0 0 j := by
    intro j hj
    unfold s_X12_runScript_w0
    try dsimp only
    rw [e]
  refine ⟨?_, (hX 0 (by decide)).trans (upd_at _ _ _), (h.note ((hX 2 (by decide)).trans (upd_ne (by decide))) ((hX 8 (by decide)).trans (upd_ne (by decide)))).mono (by omega)⟩
  unfold s_X12_runScript_r
  skip
  try dsimp only
  rw [e, if_pos ref_0]
  exact script_rel h.2.1 (by omega) k
theorem ln_runScript (h : WR N x9 ft z x2 zk zs fl X fR f fd fk fz) (k : ¬ (s_X11_runScript_k a q) = 0) : (s_X12_runScript_w0 a q X) 0 = cdK 1 (s_X11_runScript_k a q) ∧ WR (N + 200) x9 ft z x2 zk zs fl (s_X12_runScript_w0 a q X) fR f fd fk fz := by
  have e : (if (s_X12_in_r a.toInt64 1 3) = 0 then 1 else (if (s_X12_in_r q 0 ((if a = 1 then 100000 else (if a = 2 then 10000000000 else 1000000000000000)) - 1)) = 0 then 1 else 0)) = cdK 1 (s_X11_runScript_k a q) := (kv_runScript).symm
  have n := ref_c (c := 1) k
  unfold s_X12_runScript_w0
  try dsimp only
  rw [e]
  exact ⟨upd_at _ _ _, (h.note (upd_ne (by decide)) (upd_ne (by decide))).mono (by omega)⟩
theorem ly_simulate (h : WR N x9 ft z x2 zk zs fl X fR f fd fk fz) (hN : N + 12800 < 2147483648) (k : (s_X11_simulate_k a) = 0) : (s_X11_simulate_r q a z) = (s_X12_simulate_r q a f) ∧ (s_X12_simulate_w0 a X) 0 = 0 ∧ WR (N + 200) x9 ft z x2 zk zs fl (s_X12_simulate_w0 a X) fR f fd fk fz := by
  have e : ((if (s_X12_in_r a.toInt64 1 60) = 0 then 1 else 0) : Int32) = 0 := by rw [← (kv_simulate), k]; exact cd0
  have hX : ∀ j, j < 12 → (s_X12_simulate_w0 a X) j = upd X 0 0 j := by
    intro j hj
    unfold s_X12_simulate_w0
    try dsimp only
    rw [e]
  refine ⟨?_, (hX 0 (by decide)).trans (upd_at _ _ _), (h.note ((hX 2 (by decide)).trans (upd_ne (by decide))) ((hX 8 (by decide)).trans (upd_ne (by decide)))).mono (by omega)⟩
  unfold s_X12_simulate_r
  skip
  try dsimp only
  rw [e, if_pos ref_0]
  have d : ¬ s_X12_in_r a.toInt64 1 60 = 0 := fun d => by
    rw [if_pos d] at e
    exact absurd e (by decide)
  have d2 := (in_tn (in_vp (n := 61) d (by decide) (by decide)) (by decide)).2
  exact simu_rel h.2.1 (by omega)
theorem ln_simulate (h : WR N x9 ft z x2 zk zs fl X fR f fd fk fz) (k : ¬ (s_X11_simulate_k a) = 0) : (s_X12_simulate_w0 a X) 0 = cdK 1 (s_X11_simulate_k a) ∧ WR (N + 200) x9 ft z x2 zk zs fl (s_X12_simulate_w0 a X) fR f fd fk fz := by
  have e : (if (s_X12_in_r a.toInt64 1 60) = 0 then 1 else 0) = cdK 1 (s_X11_simulate_k a) := (kv_simulate).symm
  have n := ref_c (c := 1) k
  unfold s_X12_simulate_w0
  try dsimp only
  rw [e]
  exact ⟨upd_at _ _ _, (h.note (upd_ne (by decide)) (upd_ne (by decide))).mono (by omega)⟩
theorem ly_save (h : WR N x9 ft z x2 zk zs fl X fR f fd fk fz) (hN : N + 12800 < 2147483648) (k : (s_X11_save_k a) = 0) : (s_X11_save_r z) = (s_X12_save_r a f) ∧ (s_X12_save_w0 a X) 0 = 0 ∧ WR (N + 200) x9 ft z x2 zk (uK zs (tn a) z) (upd fl (tn a) 1) (s_X12_save_w0 a X) fR f fd (s_X12_save_w2 a f fk) (s_X12_save_w3 a fz) := by
  obtain ⟨e1, e2, e3⟩ := save_st h k
  exact ⟨e1, e2, e3.mono (by omega)⟩
theorem ln_save (h : WR N x9 ft z x2 zk zs fl X fR f fd fk fz) (k : ¬ (s_X11_save_k a) = 0) : (s_X12_save_w0 a X) 0 = cdK 3 (s_X11_save_k a) ∧ WR (N + 200) x9 ft z x2 zk zs fl (s_X12_save_w0 a X) fR f fd (s_X12_save_w2 a f fk) (s_X12_save_w3 a fz) := by
  have e : (if (s_X12_in_r a.toInt64 0 1) = 0 then 1 else 0) = cdK 3 (s_X11_save_k a) := (kv_save).symm
  have n := ref_c (c := 3) k
  unfold s_X12_save_w0 s_X12_save_w2 s_X12_save_w3
  try dsimp only
  rw [e, if_neg n, if_neg n]
  exact ⟨upd_at _ _ _, (h.note (upd_ne (by decide)) (upd_ne (by decide))).mono (by omega)⟩
theorem ly_restore (h : WR N x9 ft z x2 zk zs fl X fR f fd fk fz) (hN : N + 12800 < 2147483648) (k : (s_X11_restore_k a fl) = 0) : (s_X11_restore_r a zs) = (s_X12_restore_r a f fk fz) ∧ (s_X12_restore_w0 a X fz) 0 = 0 ∧ WR (N + 200) x9 ft (zs (tn a)) (s_X11_restore_w1 x2) zk zs fl (s_X12_restore_w0 a X fz) fR (s_X12_restore_w1 a f fk fz) fd fk fz := by
  obtain ⟨e1, e2, e3⟩ := rest_st h k
  exact ⟨e1, e2, e3.mono (by omega)⟩
theorem ln_restore (h : WR N x9 ft z x2 zk zs fl X fR f fd fk fz) (k : ¬ (s_X11_restore_k a fl) = 0) : (s_X12_restore_w0 a X fz) 0 = cdK 3 (s_X11_restore_k a fl) ∧ WR (N + 200) x9 ft z x2 zk zs fl (s_X12_restore_w0 a X fz) fR (s_X12_restore_w1 a f fk fz) fd fk fz := by
  have e : (if (s_X12_in_r a.toInt64 0 1) = 0 then 1 else (if (fz (tn a)) = 0 then 2 else 0)) = cdK 3 (s_X11_restore_k a fl) := (kv_restore h).symm
  have n := ref_c (c := 3) k
  unfold s_X12_restore_w0 s_X12_restore_w1
  try dsimp only
  rw [e, if_neg n, if_neg n]
  exact ⟨upd_at _ _ _, (h.note (upd_ne (by decide)) (upd_ne (by decide))).mono (by omega)⟩
end LSTEPS

theorem drop_high {a : Int32} {f : Nat → Int32} {j : Nat} (h : 118 ≤ j) : s_X12_dropSwing_w0 a f j = f j := by
  unfold s_X12_dropSwing_w0
  rw [upd_ne (by omega), drF_out (by omega)]
theorem add_high {f : Nat → Int32} {j : Nat} (h16 : vp_in (f 16) 21) (h : 122 ≤ j) : s_X12_addSwing_w0 f j = f j := by
  have hk := (in_tn (add_16 (f := f) h16 rfl) (by decide)).2
  unfold s_X12_addSwing_w0
  try dsimp only
  rw [upd_ne (by omega), upd_ne (by omega), upd_ne (by omega), upd_ne (by omega), upd_ne (by omega)]
  exact ite_at (drop_high (by omega)) rfl
theorem crB_high {f : Nat → Int32} {j : Nat} (h16 : vp_in (f 16) 21) (h : 122 ≤ j) : crB f j = f j := by
  unfold crB
  rw [upd_ne (by omega), upd_ne (by omega)]
  refine ite_at ?_ ?_
  · rw [add_high (by rw [upd_ne (by decide)]; exact h16) h, upd_ne (by omega)]
  · rw [upd_ne (by omega)]
theorem cross_high {a : Int32} {f : Nat → Int32} {j : Nat} (h16 : vp_in (f 16) 21) (h : 122 ≤ j) : s_X12_cross_w0 a f j = f j := by
  rw [cross_def]
  have e := crA_keep (f := f) (j := j) (by omega) (by omega) (by omega)
  refine ite_at e (ite_at e ?_)
  rw [crB_high (by rw [crA_keep (by decide) (by decide) (by decide)]; exact h16) h, e]
theorem tick_high {f : Nat → Int32} {j : Nat} (h11 : vp_in (f 11) 3) (h16 : vp_in (f 16) 21) (h : 122 ≤ j) : s_X12_tickOn_w0 f j = f j := by
  rw [tick_def]
  have e : tkC (tkB (tkA f) (tkR f)) j = f j := by
    rw [tkC_keep (by omega) (by omega), tkB_high (by omega) (by rw [tkA_keep (by decide) (by decide) (by decide) (by decide)]; exact h11), tkA_keep (by omega) (by omega) (by omega) (by omega)]
  have e16 : tkC (tkB (tkA f) (tkR f)) 16 = f 16 := tkAll_keep (by decide) (by decide) (by decide) (by decide) (by decide) (by decide) (by decide) (by decide)
  refine ite_at ?_ e
  rw [cross_high (by rw [e16]; exact h16) h, e]
/-- pages on which the model runs a script: the modes that are put aside are modes -/
def SM (f : Nat → Int32) : Prop := TK f ∧ vp_in (f 17) 9 ∧ ∀ t, t < tn (f 17) → vp_in (f (122 + 4 * t + 3)) 3
theorem SM_of {f g : Nat → Int32} (h : SM f) (hT : TK g) (h17 : g 17 = f 17) (hh : ∀ j, 122 ≤ j → g j = f j) : SM g :=
  ⟨hT, by rw [h17]; exact h.2.1, fun t ht => by rw [h17] at ht; rw [hh _ (by omega)]; exact h.2.2 t ht⟩
theorem TK_of {f g : Nat → Int32} (h : TK f) (h1 : g 1 = f 1) (h2 : g 2 = f 2) (h3 : g 11 = f 11) (h4 : g 16 = f 16) : TK g :=
  ⟨by rw [h1]; exact h.1, by rw [h2]; exact h.2.1, by rw [h3]; exact h.2.2.1, by rw [h4]; exact h.2.2.2⟩
theorem tick_SM {f : Nat → Int32} (h : SM f) : SM (s_X12_tickOn_w0 f) := SM_of h (tick_TK h.1) tick_open (fun j hj => tick_high h.1.2.2.1 h.1.2.2.2 hj)
theorem it_SM {f : Nat → Int32} (h : SM f) : ∀ k, SM (itF s_X12_tickOn_w0 k f)
  | 0 => h
  | k + 1 => tick_SM (it_SM h k)
theorem mode_SM {a : Int32} {f : Nat → Int32} (h : SM f) (ha : vp_in a 3) : SM (s_X12_modeOn_w0 a f) :=
  SM_of h (mode_TK h.1 ha) (mode_keep (by decide) (by decide) (by decide) (by decide) (by decide) (by decide)) (fun j hj => mode_keep (by omega) (by omega) (by omega) (by omega) (by omega) (by omega))
theorem dist_keep {a : Int32} {f : Nat → Int32} {j : Nat} (h : j ≠ 12) (h1 : j ≠ 41) : s_X12_disturbOn_w0 a f j = f j := by
  unfold s_X12_disturbOn_w0
  rw [upd_ne h1, upd_ne h]
theorem dist_TK {a : Int32} {f : Nat → Int32} (h : TK f) : TK (s_X12_disturbOn_w0 a f) :=
  TK_of h (dist_keep (by decide) (by decide)) (dist_keep (by decide) (by decide)) (dist_keep (by decide) (by decide)) (dist_keep (by decide) (by decide))
theorem dist_SM {a : Int32} {f : Nat → Int32} (h : SM f) : SM (s_X12_disturbOn_w0 a f) :=
  SM_of h (dist_TK h.1) (dist_keep (by decide) (by decide)) (fun j hj => dist_keep (by omega) (by omega))
theorem set_ge {a b : Int32} (h : ¬ s_X12_isSetting_r a b = 0) : 5 ≤ tn a ∧ tn a ≤ 10 := by
  unfold s_X12_isSetting_r at h
  try dsimp only at h
  split at h
  · next q => rw [q]; exact ⟨by decide, by decide⟩
  · split at h
    · next q => rw [q]; exact ⟨by decide, by decide⟩
    · split at h
      · next q => rw [q]; exact ⟨by decide, by decide⟩
      · split at h
        · exact absurd rfl h
        · next q =>
          have h2 : s_X12_in_r a.toInt64 8 10 = 1 := by
            rcases z_X12_in a.toInt64 8 10 with q9 | q9
            · exact absurd q9 q
            · exact q9
          have h3 := in_yes.mp h2
          rw [i64_of] at h3
          have h4 : (8 : Int) ≤ a.toInt := h3.1
          have h5 : a.toInt ≤ (10 : Int) := h3.2
          have h6 : a.toInt = ((tn a : Nat) : Int) := by
            have h7 := (in_tn (x := a) (n := 11) (vp_in_iff.mpr ⟨by omega, by omega⟩) (by decide))
            have h8 := congrArg Int32.toInt h7.1
            rw [nI_toInt (by omega)] at h8
            exact h8
          omega
theorem set_SM {a b : Int32} {f : Nat → Int32} (h : SM f) (hs : ¬ s_X12_isSetting_r a b = 0) : SM (upd f (tn a) b) := by
  obtain ⟨h1, h2⟩ := set_ge hs
  exact SM_of h (TK_of h.1 (upd_ne (by omega)) (upd_ne (by omega)) (upd_ne (by omega)) (upd_ne (by omega))) (upd_ne (by omega)) (fun j hj => upd_ne (by omega))
theorem rule_SM {a : Int32} {f : Nat → Int32} (h : SM f) : SM (s_X12_ruleOn_w1 a f) :=
  SM_of h (rule_TK h.1) (rule_keep (by decide) (by decide) (by decide) (by decide)) (fun j hj => rule_keep (by omega) (by omega) (by omega) (by omega))
theorem try_SM {a : Int32} {f : Nat → Int32} (h : SM f) (h8 : vp_in (f 17) 8) : SM (s_X12_tryOn_w1 a f) := by
  obtain ⟨hn1, hn2⟩ := in_tn h8 (by decide)
  unfold s_X12_tryOn_w1
  refine rule_SM ?_
  have e17 : (f 17) + 1 = nI (tn (f 17) + 1) := by
    have h9 := nI_1 (tn (f 17))
    rw [← hn1] at h9
    exact h9
  refine ⟨TK_of h.1 ?_ ?_ ?_ ?_, ?_, fun t ht => ?_⟩
  · rw [upd_ne (by omega), upd_ne (by omega), upd_ne (by omega), upd_ne (by omega), upd_ne (by omega)]
  · rw [upd_ne (by omega), upd_ne (by omega), upd_ne (by omega), upd_ne (by omega), upd_ne (by omega)]
  · rw [upd_ne (by omega), upd_ne (by omega), upd_ne (by omega), upd_ne (by omega), upd_ne (by omega)]
  · rw [upd_ne (by omega), upd_ne (by omega), upd_ne (by omega), upd_ne (by omega), upd_ne (by omega)]
  · rw [pk_us, e17]
    exact vp_in_nI (by omega) (by decide)
  · rw [pk_us, e17] at ht
    have e2 : tn (nI (tn (f 17) + 1)) = tn (f 17) + 1 := nI_clamp (by omega)
    rw [e2] at ht
    rw [upd_ne (by omega)]
    rcases Nat.lt_or_ge t (tn (f 17)) with q | q
    · rw [upd_ne (by omega), upd_ne (by omega), upd_ne (by omega), upd_ne (by omega)]
      exact h.2.2 t q
    · have e3 : t = tn (f 17) := by omega
      rw [e3, pk_us]
      exact h.1.2.2.1
theorem vp_mono8 {x : Int32} (h : vp_in x 8) : vp_in x 9 := by
  obtain ⟨j, hj, e⟩ := vp_in_of h (by decide)
  rw [e]
  exact vp_in_nI (by omega) (by decide)
theorem take_SM {f : Nat → Int32} (h : SM f) (h0 : ¬ f 17 = 0) : SM (s_X12_takeBackOn_w0 f) := by
  have h8 := open_in h.2.1 h0
  obtain ⟨hn1, hn2⟩ := in_tn h8 (by decide)
  obtain ⟨hm1, hm2⟩ := in_tn h.2.1 (by decide)
  have e1 : tn (f 17) = tn ((f 17) - 1) + 1 := by
    have h9 : (f 17) = nI (tn ((f 17) - 1) + 1) := by
      have h7 := nI_1 (tn ((f 17) - 1))
      rw [← hn1] at h7
      rw [← h7]
      simp
    have h6 : tn (f 17) = tn (nI (tn ((f 17) - 1) + 1)) := congrArg tn h9
    rw [h6]
    exact nI_clamp (by omega)
  unfold s_X12_takeBackOn_w0
  refine mode_SM ⟨TK_of h.1 ?_ ?_ ?_ ?_, ?_, fun t ht => ?_⟩ (h.2.2 _ (by omega))
  · rw [upd_ne (by decide), upd_ne (by decide), upd_ne (by decide), upd_ne (by decide)]
  · rw [upd_ne (by decide), upd_ne (by decide), upd_ne (by decide), upd_ne (by decide)]
  · rw [upd_ne (by decide), upd_ne (by decide), upd_ne (by decide), upd_ne (by decide)]
  · rw [upd_ne (by decide), upd_ne (by decide), upd_ne (by decide), upd_ne (by decide)]
  · rw [upd_ne (by decide), upd_ne (by decide), upd_ne (by decide), pk_us]
    exact vp_mono8 h8
  · rw [upd_ne (by decide), upd_ne (by decide), upd_ne (by decide), pk_us] at ht
    rw [upd_ne (by omega), upd_ne (by omega), upd_ne (by omega), upd_ne (by omega)]
    exact h.2.2 t (by omega)
theorem SM_ite {c : Prop} [Decidable c] {f g : Nat → Int32} (h1 : c → SM f) (h2 : ¬ c → SM g) : SM (if c then f else g) := by
  by_cases h : c
  · rw [if_pos h]; exact h1 h
  · rw [if_neg h]; exact h2 h
theorem isMode_in {a : Int32} (h : ¬ s_X12_isMode_r a = 0) : vp_in a 3 := by
  unfold s_X12_isMode_r at h
  exact in_vp h (by decide) (by decide)
theorem does_SM {a1 a2 a3 : Int32} {f : Nat → Int32} (h : SM f) : SM (s_X12_does_w1 a1 a2 a3 f) := by
  unfold s_X12_does_w1
  exact SM_ite (fun _ => SM_ite (fun _ => SM_ite (fun _ => h) (fun _ => it_SM h _)) (fun _ => h)) (fun _ =>
    SM_ite (fun _ => SM_ite (fun _ => SM_ite (fun _ => h) (fun q => mode_SM h (isMode_in q))) (fun _ => h)) (fun _ =>
    SM_ite (fun _ => SM_ite (fun _ => h) (fun _ => SM_ite (fun _ => dist_SM h) (fun _ => h))) (fun _ =>
    SM_ite (fun _ => SM_ite (fun _ => h) (fun q => set_SM h q)) (fun _ =>
    SM_ite (fun _ => SM_ite (fun _ => SM_ite (fun _ => h) (fun _ => SM_ite (fun _ => h) (fun q => try_SM h (can_in h.2.1 q).1))) (fun _ => h)) (fun _ =>
    SM_ite (fun _ => SM_ite (fun _ => SM_ite (fun _ => SM_ite (fun _ => h) (fun q => take_SM h q)) (fun _ => h)) (fun _ => h)) (fun _ =>
    SM_ite (fun _ => h) (fun _ => SM_ite (fun _ => h) (fun _ => SM_ite (fun _ => h) (fun _ => h)))))))))
/-- a script's commands one by one: r are left, L holds them, k have succeeded -/
def scS : Nat → Nat → Nat → (Nat → Int32) → Int32
  | 0, _, _, _ => -99999
  | r + 1, L, k, f => if s_X12_does_r (nI (L / 100000 ^ r / 10000)) (nI (L / 100000 ^ r / 1000 % 10)) (nI (L / 100000 ^ r % 1000)) f = 0 then nI k else scS r (L % 100000 ^ r) (k + 1) (s_X12_does_w1 (nI (L / 100000 ^ r / 10000)) (nI (L / 100000 ^ r / 1000 % 10)) (nI (L / 100000 ^ r % 1000)) f)
theorem pw_lt {r : Nat} (h : r ≤ 3) : 100000 ^ r < 2 ^ 63 := Nat.lt_of_le_of_lt (Nat.pow_le_pow_right (by decide) h) (by decide)
theorem pw_pos {r : Nat} : 0 < 100000 ^ r := Nat.pow_pos (by decide)
theorem pw_div {r : Nat} (h : r + 1 ≤ 3) : lN (100000 ^ (r + 1)) / 100000 = lN (100000 ^ r) := by
  have h1 : lN (100000 ^ (r + 1)) / lN 100000 = lN (100000 ^ (r + 1) / 100000) := pk_lDiv (pw_lt h) (by decide) (by decide)
  rw [Nat.pow_succ, Nat.mul_div_cancel _ (by decide)] at h1
  rw [Nat.pow_succ]
  exact h1
theorem lN_bv (n : Nat) : (lN n).toBitVec = BitVec.ofNat 64 n := rfl
theorem lN_nat {n : Nat} (h : n < 2 ^ 64) : (lN n).toBitVec.toNat = n := by rw [lN_bv, BitVec.toNat_ofNat]; exact Nat.mod_eq_of_lt h
theorem lN_ti {m : Nat} (h : m < 2 ^ 64) : (lN m).toInt = if m < 2 ^ 63 then (m : Int) else (m : Int) - 2 ^ 64 := by
  have c := BitVec.toInt_eq_toNat_cond (lN m).toBitVec
  rw [lN_nat h] at c
  show (lN m).toBitVec.toInt = _
  rw [c]
  split <;> split <;> omega
theorem lN_ne0 {p : Nat} (h0 : 0 < p) (h : p < 2 ^ 63) : ¬ lN p = 0 := fun h2 => by
  have h3 := congrArg Int64.toInt h2
  rw [lN_ti (by omega), if_pos h] at h3
  have h4 : (0 : Int64).toInt = 0 := rfl
  omega
theorem sc_lt {L r : Nat} (h : L < 100000 ^ (r + 1)) (h3 : r + 1 ≤ 3) : L < 2 ^ 63 := Nat.lt_trans h (pw_lt h3)
theorem sc_grp {L r : Nat} (h : L < 100000 ^ (r + 1)) : L / 100000 ^ r < 100000 := by
  refine Nat.div_lt_of_lt_mul ?_
  rw [← Nat.pow_succ]
  exact h
theorem d_a {g : Nat} (h : g < 100000) : nI g / 10000 = nI (g / 10000) := pk_div (d := 10000) (by omega) (by decide) (by decide)
theorem d_b {g : Nat} (h : g < 100000) : nI g / 1000 - nI g / 1000 / 10 * 10 = nI (g / 1000 % 10) := by
  have e : nI g / 1000 = nI (g / 1000) := pk_div (d := 1000) (by omega) (by decide) (by decide)
  rw [e]
  exact pk_rem (d := 10) (by omega) (by decide) (by decide)
theorem d_c {g : Nat} (h : g < 100000) : nI g - nI g / 1000 * 1000 = nI (g % 1000) := pk_rem (d := 1000) (by omega) (by decide) (by decide)
abbrev tl (x : Int64) : Nat := x.toBitVec.toNat
theorem lN_tl {x : Int64} (h : 0 ≤ x.toInt) : x = lN (tl x) ∧ ((tl x : Nat) : Int) = x.toInt := by
  have e1 : x.toInt = ((tl x : Nat) : Int) := by
    have h1 : x.toInt = x.toBitVec.toInt := rfl
    rw [h1, BitVec.toInt_eq_toNat_cond]
    rw [h1, BitVec.toInt_eq_toNat_cond] at h
    split
    · rfl
    · next q =>
      rw [if_neg q] at h
      have := x.toBitVec.isLt
      omega
  have hb : tl x < 2 ^ 63 := by
    have := Int64.toInt_lt x
    omega
  refine ⟨?_, e1.symm⟩
  have h2 : (lN (tl x)).toInt = x.toInt := by
    rw [lN_ti (by omega), if_pos hb, e1]
  exact (Int64.toInt_inj.mp h2).symm
theorem scr_in {a1 : Int32} {a2 v : Int64} {vv : Int32} (e : v = (if a1 = 1 then 100000 else (if a1 = 2 then 10000000000 else 1000000000000000))) (e2 : vv = (if (s_X12_in_r a1.toInt64 1 3) = 0 then 1 else (if (s_X12_in_r a2 0 (v - 1)) = 0 then 1 else 0))) (c : s_X12_refused_r vv = 0) : a1 = nI (tn a1) ∧ 1 ≤ tn a1 ∧ tn a1 ≤ 3 ∧ v = lN (100000 ^ tn a1) ∧ a2 = lN (tl a2) ∧ tl a2 < 100000 ^ tn a1 := by
  obtain ⟨q1, q2⟩ := ref021 e2 c
  have h1 : s_X12_in_r a1.toInt64 1 3 = 1 := by
    rcases z_X12_in a1.toInt64 1 3 with q | q
    · exact absurd q q1
    · exact q
  have h2 : s_X12_in_r a2 0 (v - 1) = 1 := by
    rcases z_X12_in a2 0 (v - 1) with q | q
    · exact absurd q q2
    · exact q
  have h3 := in_yes.mp h1
  rw [i64_of] at h3
  have h4 : (1 : Int) ≤ a1.toInt := h3.1
  have h5 : a1.toInt ≤ (3 : Int) := h3.2
  obtain ⟨g1, g2⟩ := in_tn (x := a1) (n := 4) (vp_in_iff.mpr ⟨by omega, by omega⟩) (by decide)
  have g3 : a1.toInt = ((tn a1 : Nat) : Int) := by
    have h8 := congrArg Int32.toInt g1
    rw [nI_toInt (by omega)] at h8
    exact h8
  have g4 : 1 ≤ tn a1 := by omega
  have hv : v = lN (100000 ^ tn a1) := by
    have h9 : tn a1 = 1 ∨ tn a1 = 2 ∨ tn a1 = 3 := by omega
    rcases h9 with q | q | q
    · rw [q] at g1 ⊢
      rw [g1] at e
      rw [e]
      rfl
    · rw [q] at g1 ⊢
      rw [g1] at e
      rw [e]
      rfl
    · rw [q] at g1 ⊢
      rw [g1] at e
      rw [e]
      rfl
  have h6 := in_yes.mp h2
  have h7 : (0 : Int) ≤ a2.toInt := h6.1
  obtain ⟨g5, g6⟩ := lN_tl h7
  refine ⟨g1, g4, by omega, hv, g5, ?_⟩
  have h8 : a2.toInt ≤ (v - 1).toInt := h6.2
  have e1 : v - 1 = lN (100000 ^ tn a1 - 1) := by
    rw [hv]
    exact lN_sub (b := 1) pw_pos
  have hp := pw_lt (show tn a1 ≤ 3 by omega)
  have h0 : 0 < 100000 ^ tn a1 := pw_pos
  rw [e1, lN_ti (by omega), if_pos (by omega)] at h8
  omega
/-- a simulation's number of a round, and its disturbance -/
def simR (x : Int64) : Int32 := ((x.toUInt64 >>> ((33 : Int32).toInt64.toUInt64 &&& Int64.toUInt64 63)).toInt64).toInt32
def simD (r : Int32) : Int32 := r / 8 - r / 8 / 81 * 81 - 40
def simN (x : Int64) : Int64 := x * 6364136223846793005 + 1442695040888963407
def simG (x : Int64) (w : Nat → Int32) : Nat → Int32 := if simR x - simR x / 8 * 8 = 0 then s_X12_disturbOn_w0 (simD (simR x)) w else w
/-- a simulation's rounds -/
def simS (f : Nat → Int32) (x : Int64) : Nat → Int64 × (Nat → Int32)
  | 0 => (x, f)
  | k + 1 => (simN (simS f x k).1, itF s_X12_tickOn_w0 3 (simG (simN (simS f x k).1) (simS f x k).2))
theorem simS_1 {f : Nat → Int32} {x : Int64} {k : Nat} : (simS f x (k + 1)).1 = simN (simS f x k).1 := by rw [simS]
theorem simS_2 {f : Nat → Int32} {x : Int64} {k : Nat} : (simS f x (k + 1)).2 = itF s_X12_tickOn_w0 3 (simG (simN (simS f x k).1) (simS f x k).2) := by rw [simS]
theorem sim_st {f w v : Nat → Int32} {x x4 : Int64} {k : Nat} (hx : x4 = (simS f x k).1) (hw : w = (simS f x k).2) (e : v = (if ((simR (simN x4)) - (simR (simN x4)) / 8 * 8) = 0 then (s_X12_disturbOn_w0 (simD (simR (simN x4))) w) else w)) : itF s_X12_tickOn_w0 3 v = (simS f x (k + 1)).2 := by
  rw [simS_2, e, hx, hw]
  rfl
theorem simG_TK {w : Nat → Int32} {x : Int64} (h : TK w) : TK (simG x w) := by
  unfold simG
  by_cases q : simR x - simR x / 8 * 8 = 0
  · rw [if_pos q]; exact dist_TK h
  · rw [if_neg q]; exact h
theorem sim_TK {f : Nat → Int32} {x : Int64} (h : TK f) : ∀ k, TK (simS f x k).2
  | 0 => h
  | k + 1 => by
    rw [simS_2]
    exact it_TK (simG_TK (sim_TK h k)) 3
section ROWL
variable {p : Program} {l : Launch} {e : Env} {R : Room} {s : State} {m : MethodId} {args : Array Value} {below : List Frame} {meth : Method} {c : Code} {H : Heap} {locs : List Loc} {cells slots : Nat} {Q : State → Prop} {pc : Nat} {ls : Array Slot} {rest : List Value}
theorem rw_l {x x' : Int64} (h : x = x') (k : W p l e R s m args below meth c H locs cells slots Q (F0 m pc ls (.long x' :: rest))) : W p l e R s m args below meth c H locs cells slots Q (F0 m pc ls (.long x :: rest)) := h ▸ k
end ROWL

def s_X12_runScript_r (a1 : Int32) (a2 : Int64) (f : Nat → Int32) : Int32 := (let v_2 : Int64 := (if a1 = 1 then 100000 else (if a1 = 2 then 10000000000 else 1000000000000000)); (let v_5 : Int32 := (if (s_X12_in_r a1.toInt64 1 3) = 0 then 1 else (if (s_X12_in_r a2 0 (v_2 - 1)) = 0 then 1 else 0)); (if (s_X12_refused_r v_5) = 0 then (scS (tn a1) (tl a2) 0 f) else 0)))
def s_X12_runScript_w0 (a1 : Int32) (a2 : Int64) (x : Nat → Int32) : Nat → Int32 := (let v_2 : Int64 := (if a1 = 1 then 100000 else (if a1 = 2 then 10000000000 else 1000000000000000)); (let v_5 : Int32 := (if (s_X12_in_r a1.toInt64 1 3) = 0 then 1 else (if (s_X12_in_r a2 0 (v_2 - 1)) = 0 then 1 else 0)); (upd x 0 v_5)))
abbrev rmX12_runScript : Room := ({ frames := 8, cells := 0, slots := 0, locals := 192 } : Room)
set_option maxHeartbeats 4000000 in
set_option maxRecDepth 100000 in
theorem c_X12_runScript (l : Launch) (G : va_G) (y : Nat → ClassId) (h : Nat) (a1 : Int32) (a2 : Int64) (q1 : Nat) (q4 : Nat) (q5 : Nat) (q6 : Nat) (q7 : Nat) (q9 : Nat) (q10 : Nat) (q11 : Nat) (x : Nat → Int32) (f : Nat → Int32) (g : Nat → Int32) (o : Nat → Int32) (sz : Nat) (hg : SM f) : Met l yX12_runScript wsX12_runScript rmX12_runScript (PH G y [.ref h, .int a1, .long a2] [kX12 h q1 q4 q5 q6 q7 q9 q10 q11 x, aI y q5 154 f, aI y q6 154 g, aI y q11 20 o] sz) (QHi G (s_X12_runScript_r a1 a2 f) (fun u : (Nat → Int32) × (Nat → Int32) => [kX12 h q1 q4 q5 q6 q7 q9 q10 q11 (s_X12_runScript_w0 a1 a2 x), aI y q5 154 f, aI y q6 154 u.1, aI y q11 20 u.2]) (va_A [kX12 h q1 q4 q5 q6 q7 q9 q10 q11 x, aI y q5 154 f, aI y q6 154 g, aI y q11 20 o] sz)) 0 0 (va_A [kX12 h q1 q4 q5 q6 q7 q9 q10 q11 x, aI y q5 154 f, aI y q6 154 g, aI y q11 20 o] sz) := by
  refine Met.ofW (cc := cX12_runScript) (maxL := 10) (ret := (some .int)) (by decide) rfl ?_
  intro p e s m args below meth c s₁ B hml hv
  obtain ⟨rfl, hsz, hP, ⟨hK, hN⟩, hD0⟩ := hv
  have hx := B.exec
  have hb := B.bytes
  have hr := B.returns
  have hts := atoms_spec (ws := wsX12_runScript) B.pre
  have hown : s.vm.findClass RX12 = some m.cls := findClass_of_methodNamed B.named
  have hlocks := B.notSynchronized
  have i_X12 : ∀ w ∈ u_ws RX12 TX12 15, w ∈ wsX12_runScript := by decide +kernel
  subst hsz
  have hD := hD0.self (sz := s.heap.size)
  generalize hAe : va_A [kX12 h q1 q4 q5 q6 q7 q9 q10 q11 x, aI y q5 154 f, aI y q6 154 g, aI y q11 20 o] s.heap.size = A at hD ⊢
  have hA : ∀ q : Nat, s.heap.size ≤ q → A q := fun q h => by rw [← hAe]; exact Or.inr h
  have hS : va_S A s.heap s.heap [] := va_S.rf
  have hP : va_P G vwCl [kX12 h q1 q4 q5 q6 q7 q9 q10 q11 x, aI y q5 154 f, aI y q6 154 g, aI y q11 20 o] s.heap := hP
  have hl := lv_entry ([.ref h, .int a1, .long a2]) (n := 10) (Nat.le_of_ble_eq_true rfl)
  rw [lg_entry_eq]
  generalize (lg_sl ([.ref h, .int a1, .long a2]) ++ List.replicate (10 - (lg_sl ([.ref h, .int a1, .long a2])).length) Slot.unset).toArray = ls at hl ⊢
  have hl : lv_has ls 10 [(0, .ref h), (1, .int a1), (2, .long a2)] := hl
  obtain ⟨QQ, hQQ⟩ : ∃ zq9, zq9 = MQ below (QHi G (s_X12_runScript_r a1 a2 f) (fun u : (Nat → Int32) × (Nat → Int32) => [kX12 h q1 q4 q5 q6 q7 q9 q10 q11 (s_X12_runScript_w0 a1 a2 x), aI y q5 154 f, aI y q6 154 u.1, aI y q11 20 u.2]) A) ([.ref h, .int a1, .long a2] : List Value).toArray s 0 0 A := ⟨_, rfl⟩
  rw [← hQQ]
  refine lv_iload_n hx hb dX12_runScript_0 rfl (lv_at hl 1 rfl) ?_
  refine lv_iconst (v := 1) hx hb dX12_runScript_1 (by decide) ?_
  have J25_3 : ∀ (v_2 : Int64) (e_v_2 : v_2 = (if a1 = 1 then 100000 else (if a1 = 2 then 10000000000 else 1000000000000000))) (ls : Array Slot) (hl : lv_has ls 10 [(0, .ref h), (1, .int a1), (2, .long a2)]), W p l e (headSpec wsX12_runScript rmX12_runScript).room s m ([.ref h, .int a1, .long a2] : List Value).toArray below meth c s.heap [] 0 0 QQ (F0 m 25 ls [.long v_2]) := by
    intro v_2 e_v_2 ls hl
    refine lv_lstore (lv' := [(4, .long v_2), (0, .ref h), (1, .int a1), (2, .long a2)]) hx hb dX12_runScript_25 hl (by decide) rfl (fun ls hl => ?_)
    refine lv_aload_n hx hb dX12_runScript_27 rfl (lv_at hl 1 rfl) ?_
    refine lv_iload_n hx hb dX12_runScript_28 rfl (lv_at hl 2 rfl) ?_
    refine lv_i2l (v := a1.toInt64) hx hb dX12_runScript_29 rfl ?_
    refine lv_lconst (v := 1) hx hb dX12_runScript_30 rfl ?_
    refine lv_ldc2 (v := 3) hx hb hown (hts (.constantLong RX12 193 3) (by decide +kernel)) dX12_runScript_31 ?_
    refine cl_Ri (va_runS (As := [.long a1.toInt64, .long 1, .long 3]) (rest := [.ref h]) ⟨hx, hb, hml, hown, hts⟩ (c_X12_in l G y a1.toInt64 1 3) (va_cwS 3 hts gX12_runScript_X12_in rfl rfl rfl (by decide +kernel) ⟨Nat.le_of_ble_eq_true rfl, Nat.le_of_ble_eq_true rfl⟩) (PR_S pnil hK hN) rfl rfl hl.1 rfl (lv_room (Nat.le_of_ble_eq_true rfl)) dX12_runScript_34 ⟨Nat.le_of_ble_eq_true rfl, Nat.le_of_ble_eq_true rfl⟩) ?_
    have J57_7 : ∀ (v_5 : Int32) (e_v_5 : v_5 = (if (s_X12_in_r a1.toInt64 1 3) = 0 then 1 else (if (s_X12_in_r a2 0 (v_2 - 1)) = 0 then 1 else 0))) (z_6 : v_5 = 0 ∨ v_5 = 1) (ls : Array Slot) (hl : lv_has ls 10 [(4, .long v_2), (0, .ref h), (1, .int a1), (2, .long a2)]), W p l e (headSpec wsX12_runScript rmX12_runScript).room s m ([.ref h, .int a1, .long a2] : List Value).toArray below meth c s.heap [] 0 0 QQ (F0 m 57 ls [.int v_5, .ref h]) := by
      intro v_5 e_v_5 z_6 ls hl
      refine cl_Hi (wr := [aI y q5 154 f, aI y q6 154 g, aI y q11 20 o]) (fun _ : Unit => [kX12 h q1 q4 q5 q6 q7 q9 q10 q11 (upd x 0 v_5), aI y q5 154 f, aI y q6 154 g, aI y q11 20 o]) [0] [1, 2, 3] [3, 0, 1, 2] (va_runV (As := [.int v_5]) (rest := []) ⟨hx, hb, hml, hown, hts⟩ (c_X12_refused l G y h v_5 q1 q4 q5 q6 q7 q9 q10 q11 x s.heap.size) (cwV 1 hts gX12_runScript_X12_refused rfl rfl rfl (by decide +kernel) ⟨Nat.le_of_ble_eq_true rfl, Nat.le_of_ble_eq_true rfl⟩) (PH_V (hP.sub (ws' := [kX12 h q1 q4 q5 q6 q7 q9 q10 q11 x]) [0] rfl) hK hN (hD.sub (ws' := [kX12 h q1 q4 q5 q6 q7 q9 q10 q11 x]) [0] (by decide) rfl) (ci := 10) (q0 := 0) rfl rfl) rfl rfl hl.1 rfl (lv_room (Nat.le_of_ble_eq_true rfl)) dX12_runScript_57 ⟨Nat.le_of_ble_eq_true rfl, Nat.le_of_ble_eq_true rfl⟩) hP hD hS hA rfl rfl rfl (by decide) rfl (fun _ => rfl) (fun _ H locs hP hD hS => ?_)
      have hP : va_P G vwCl [kX12 h q1 q4 q5 q6 q7 q9 q10 q11 (upd x 0 v_5), aI y q5 154 f, aI y q6 154 g, aI y q11 20 o] H := hP
      have hD : va_D A [kX12 h q1 q4 q5 q6 q7 q9 q10 q11 (upd x 0 v_5), aI y q5 154 f, aI y q6 154 g, aI y q11 20 o] := hD
      refine lv_if_eq (tgt := 65) hx hb dX12_runScript_60 (by decide) (fun c_8 => ?_) (fun c_8 => ?_)
      · obtain ⟨ha1, ha2, ha3, hv1, hs1, hs2⟩ := scr_in e_v_2 e_v_5 c_8
        refine lv_aload_n hx hb dX12_runScript_65 rfl (lv_at hl 1 rfl) ?_
        refine va_get (D := G) (ci := 10) (v := .ref q5) (C := RX12) (T := TX12) (N := 15) hx hb hts i_X12 hown hK hP 0 rfl rfl 5 (by decide) (hts (.fieldLink RX12 16 "RelayTunerModel" "now" "[I") (by decide +kernel)) (fun _ h9 => h9) rfl dX12_runScript_66 ?_
        refine lv_iconst (v := 0) hx hb dX12_runScript_69 (by decide) ?_
        refine lv_aload_n hx hb dX12_runScript_70 rfl (lv_at hl 1 rfl) ?_
        refine va_get (D := G) (ci := 10) (v := .ref q6) (C := RX12) (T := TX12) (N := 15) hx hb hts i_X12 hown hK hP 0 rfl rfl 6 (by decide) (hts (.fieldLink RX12 19 "RelayTunerModel" "trial" "[I") (by decide +kernel)) (fun _ h9 => h9) rfl dX12_runScript_71 ?_
        refine lv_iconst (v := 0) hx hb dX12_runScript_74 (by decide) ?_
        refine cl_Hv (wr := [kX12 h q1 q4 q5 q6 q7 q9 q10 q11 (upd x 0 v_5), aI y q11 20 o]) (fun _ : Unit => [kX12 h q1 q4 q5 q6 q7 q9 q10 q11 (upd x 0 v_5), aI y q5 154 f, aI y q6 154 (va_cpy f g 0 0 154), aI y q11 20 o]) [1, 2] [0, 3] [0, 2, 3, 1] (va_runS (As := [.ref q5, .int 0, .ref q6, .int 0]) (rest := []) ⟨hx, hb, hml, hown, hts⟩ (c_X12_copyPage l G y q5 0 q6 0 f g 0 0 154 154 H.size rfl (by decide) (by decide) rfl (by decide) (by decide)) (va_cwS 4 hts gX12_runScript_X12_copyPage rfl rfl rfl (by decide +kernel) ⟨Nat.le_of_ble_eq_true rfl, Nat.le_of_ble_eq_true rfl⟩) (PH_S (hP.sub (ws' := [aI y q5 154 f, aI y q6 154 g]) [1, 2] rfl) hK hN (hD.sub (ws' := [aI y q5 154 f, aI y q6 154 g]) [1, 2] (by decide) rfl)) rfl rfl hl.1 rfl (lv_room (Nat.le_of_ble_eq_true rfl)) dX12_runScript_75 ⟨Nat.le_of_ble_eq_true rfl, Nat.le_of_ble_eq_true rfl⟩) hP hD hS hA rfl rfl rfl (by decide) rfl (fun _ => rfl) (fun _ H locs hP hD hS => ?_)
        have hP : va_P G vwCl [kX12 h q1 q4 q5 q6 q7 q9 q10 q11 (upd x 0 v_5), aI y q5 154 f, aI y q6 154 (va_cpy f g 0 0 154), aI y q11 20 o] H := hP
        have hD : va_D A [kX12 h q1 q4 q5 q6 q7 q9 q10 q11 (upd x 0 v_5), aI y q5 154 f, aI y q6 154 (va_cpy f g 0 0 154), aI y q11 20 o] := hD
        have hD := va_D.set (p := 2) (e := (aI y q6 154 f).2) hD rfl
        have hP := alike1 (i := 2) (g := f) hP rfl (fun j hj => cpy_all hj)
        have hP : va_P G vwCl [kX12 h q1 q4 q5 q6 q7 q9 q10 q11 (upd x 0 v_5), aI y q5 154 f, aI y q6 154 f, aI y q11 20 o] H := hP
        have hD : va_D A [kX12 h q1 q4 q5 q6 q7 q9 q10 q11 (upd x 0 v_5), aI y q5 154 f, aI y q6 154 f, aI y q11 20 o] := hD
        refine lv_lload_n hx hb dX12_runScript_78 rfl (lv_at hl 3 rfl) ?_
        refine lv_lstore (lv' := [(6, .long a2), (4, .long v_2), (0, .ref h), (1, .int a1), (2, .long a2)]) hx hb dX12_runScript_79 hl (by decide) rfl (fun ls hl => ?_)
        refine lv_iconst (v := 0) hx hb dX12_runScript_81 (by decide) ?_
        refine lv_istore (lv' := [(8, .int 0), (6, .long a2), (4, .long v_2), (0, .ref h), (1, .int a1), (2, .long a2)]) hx hb dX12_runScript_82 hl (by decide) rfl (fun ls hl => ?_)
        have LOOP84_9 : ∀ (n_10 : Nat) (k0 : Nat) (r0 : Nat) (L0 : Nat) (x4 : Int64) (x6 : Int64) (x8 : Int32) (w : Nat → Int32) (w2 : Nat → Int32) (hx8 : x8 = nI k0) (hk : k0 + r0 = tn a1) (hx4 : x4 = lN (100000 ^ r0)) (hx6 : x6 = lN L0) (hL : L0 < 100000 ^ r0) (hSM : SM w) (hres : (scS r0 L0 k0 w) = (scS (tn a1) (tl a2) 0 f)) (hn_12 : r0 < n_10) (H : Heap) (locs : List Loc) (hP : va_P G vwCl [kX12 h q1 q4 q5 q6 q7 q9 q10 q11 (upd x 0 v_5), aI y q5 154 f, aI y q6 154 w, aI y q11 20 w2] H) (hD : va_D A [kX12 h q1 q4 q5 q6 q7 q9 q10 q11 (upd x 0 v_5), aI y q5 154 f, aI y q6 154 w, aI y q11 20 w2]) (hS : va_S A s.heap H locs) (ls : Array Slot) (hl : lv_has ls 10 [(8, .int x8), (6, .long x6), (4, .long x4), (0, .ref h), (1, .int a1)]), W p l e (headSpec wsX12_runScript rmX12_runScript).room s m ([.ref h, .int a1, .long a2] : List Value).toArray below meth c H locs 0 0 QQ (F0 m 84 ls []) := by
          intro n_10
          induction n_10 with
          | zero => intro k0 r0 L0 x4 x6 x8 w w2 hx8 hk hx4 hx6 hL hSM hres hn_12 H locs hP hD hS ls hl; exact absurd hn_12 (Nat.not_lt_zero _)
          | succ n_10 ih_11 =>
            intro k0 r0 L0 x4 x6 x8 w w2 hx8 hk hx4 hx6 hL hSM hres hn_12 H locs hP hD hS ls hl
            refine lv_iload hx hb dX12_runScript_84 (lv_at hl 0 rfl) ?_
            refine lv_iload_n hx hb dX12_runScript_86 rfl (lv_at hl 4 rfl) ?_
            refine lv_icmp_ge (tgt := 150) hx hb dX12_runScript_87 (by decide) (fun c_13 => ?_) (fun c_13 => ?_)
            · have hk9 : r0 = 0 := by have := kge hx8 ha1 (by omega) (by omega) c_13; omega
              refine lv_ldc (v := (-99999)) hx hb hown (hts (.constant RX12 74 (-99999)) (by decide +kernel)) dX12_runScript_150 ?_
              refine rw_i (x' := (scS (tn a1) (tl a2) 0 f)) (by rw [← hres, hk9]; rfl) ?_
              rw [hQQ]
              exact W.iret hx hb hr (end_Hi ⟨w, w2⟩ hP hD hS (by subst e_v_5; subst e_v_2; unfold s_X12_runScript_r; exact (if_pos c_8).symm) (congrArg (fun (z0 : Nat → Int32) => [kX12 h q1 q4 q5 q6 q7 q9 q10 q11 z0, aI y q5 154 f, aI y q6 154 w, aI y q11 20 w2]) (by subst e_v_5; subst e_v_2; unfold s_X12_runScript_w0; exact rfl))) hS.2.2 dX12_runScript_152
            · have hk9 : k0 < tn a1 := klt hx8 ha1 (by omega) (by omega) c_13
              obtain ⟨r1, rfl⟩ : ∃ r1, r0 = r1 + 1 := ⟨r0 - 1, by omega⟩
              have hP9 : x4 / 100000 = lN (100000 ^ r1) := by rw [hx4]; exact pw_div (by omega)
              have hN9 : ¬ x4 / 100000 = 0 := by rw [hP9]; exact lN_ne0 pw_pos (pw_lt (by omega))
              have hL9 : L0 < 2 ^ 63 := sc_lt hL (by omega)
              have hG9 : (x6 / (x4 / 100000)).toInt32 = nI (L0 / 100000 ^ r1) := by rw [hP9, hx6, pk_lDiv hL9 pw_pos (pw_lt (by omega))]; exact lN_i _
              have hR9 : x6 - x6 / (x4 / 100000) * (x4 / 100000) = lN (L0 % 100000 ^ r1) := by rw [hP9, hx6]; exact pk_lRem hL9 pw_pos (pw_lt (by omega))
              have hg9 := sc_grp hL
              obtain ⟨hT9, hO9, hM9⟩ := hSM
              refine lv_lload hx hb dX12_runScript_90 (lv_at hl 2 rfl) ?_
              refine lv_ldc2 (v := 100000) hx hb hown (hts (.constantLong RX12 227 100000) (by decide +kernel)) dX12_runScript_92 ?_
              refine lv_ldiv hx hb dX12_runScript_95 (by decide) ?_
              refine lv_lstore (lv' := [(4, .long (x4 / 100000)), (8, .int x8), (6, .long x6), (0, .ref h), (1, .int a1)]) hx hb dX12_runScript_96 hl (by decide) rfl (fun ls hl => ?_)
              refine lv_lload hx hb dX12_runScript_98 (lv_at hl 2 rfl) ?_
              refine lv_lload hx hb dX12_runScript_100 (lv_at hl 0 rfl) ?_
              refine lv_ldiv hx hb dX12_runScript_102 hN9 ?_
              refine lv_l2i (v := (x6 / (x4 / 100000)).toInt32) hx hb dX12_runScript_103 rfl ?_
              refine rw_i (x' := (nI (L0 / 100000 ^ r1))) hG9 ?_
              refine lv_istore (lv' := [(9, .int (nI (L0 / 100000 ^ r1))), (4, .long (x4 / 100000)), (8, .int x8), (6, .long x6), (0, .ref h), (1, .int a1)]) hx hb dX12_runScript_104 hl (by decide) rfl (fun ls hl => ?_)
              refine lv_lload hx hb dX12_runScript_106 (lv_at hl 3 rfl) ?_
              refine lv_lload hx hb dX12_runScript_108 (lv_at hl 1 rfl) ?_
              refine lv_lrem hx hb dX12_runScript_110 hN9 ?_
              refine lv_lstore (lv' := [(6, .long (x6 - x6 / (x4 / 100000) * (x4 / 100000))), (9, .int (nI (L0 / 100000 ^ r1))), (4, .long (x4 / 100000)), (8, .int x8), (0, .ref h), (1, .int a1)]) hx hb dX12_runScript_111 hl (by decide) rfl (fun ls hl => ?_)
              refine lv_aload_n hx hb dX12_runScript_113 rfl (lv_at hl 4 rfl) ?_
              refine lv_iload hx hb dX12_runScript_114 (lv_at hl 1 rfl) ?_
              refine lv_sipush (v := 10000) hx hb dX12_runScript_116 (by decide) ?_
              refine lv_idiv hx hb dX12_runScript_119 (by decide) ?_
              refine lv_iload hx hb dX12_runScript_120 (lv_at hl 1 rfl) ?_
              refine lv_sipush (v := 1000) hx hb dX12_runScript_122 (by decide) ?_
              refine lv_idiv hx hb dX12_runScript_125 (by decide) ?_
              refine lv_bipush (v := 10) hx hb dX12_runScript_126 (by decide) ?_
              refine lv_irem hx hb dX12_runScript_128 (by decide) ?_
              refine lv_iload hx hb dX12_runScript_129 (lv_at hl 1 rfl) ?_
              refine lv_sipush (v := 1000) hx hb dX12_runScript_131 (by decide) ?_
              refine lv_irem hx hb dX12_runScript_134 (by decide) ?_
              refine cl_Hi (wr := [aI y q5 154 f]) (fun u : (Nat → Int32) => [kX12 h q1 q4 q5 q6 q7 q9 q10 q11 (upd x 0 v_5), aI y q5 154 f, aI y q6 154 (s_X12_does_w1 ((nI (L0 / 100000 ^ r1)) / 10000) (((nI (L0 / 100000 ^ r1)) / 1000) - ((nI (L0 / 100000 ^ r1)) / 1000) / 10 * 10) ((nI (L0 / 100000 ^ r1)) - (nI (L0 / 100000 ^ r1)) / 1000 * 1000) w), aI y q11 20 u]) [0, 2, 3] [1] [1, 0, 2, 3] (va_runV (As := [.int ((nI (L0 / 100000 ^ r1)) / 10000), .int (((nI (L0 / 100000 ^ r1)) / 1000) - ((nI (L0 / 100000 ^ r1)) / 1000) / 10 * 10), .int ((nI (L0 / 100000 ^ r1)) - (nI (L0 / 100000 ^ r1)) / 1000 * 1000)]) (rest := []) ⟨hx, hb, hml, hown, hts⟩ (c_X12_does l G y h ((nI (L0 / 100000 ^ r1)) / 10000) (((nI (L0 / 100000 ^ r1)) / 1000) - ((nI (L0 / 100000 ^ r1)) / 1000) / 10 * 10) ((nI (L0 / 100000 ^ r1)) - (nI (L0 / 100000 ^ r1)) / 1000 * 1000) q1 q4 q5 q6 q7 q9 q10 q11 (upd x 0 v_5) w w2 H.size hT9 hO9) (cwV 3 hts gX12_runScript_X12_does rfl rfl rfl (by decide +kernel) ⟨Nat.le_of_ble_eq_true rfl, Nat.le_of_ble_eq_true rfl⟩) (PH_V (hP.sub (ws' := [kX12 h q1 q4 q5 q6 q7 q9 q10 q11 (upd x 0 v_5), aI y q6 154 w, aI y q11 20 w2]) [0, 2, 3] rfl) hK hN (hD.sub (ws' := [kX12 h q1 q4 q5 q6 q7 q9 q10 q11 (upd x 0 v_5), aI y q6 154 w, aI y q11 20 w2]) [0, 2, 3] (by decide) rfl) (ci := 10) (q0 := 0) rfl rfl) rfl rfl hl.1 rfl (lv_room (Nat.le_of_ble_eq_true rfl)) dX12_runScript_135 ⟨Nat.le_of_ble_eq_true rfl, Nat.le_of_ble_eq_true rfl⟩) hP hD hS hA rfl rfl rfl (by decide) rfl (fun _ => rfl) (fun u H locs hP hD hS => ?_)
              obtain ⟨o_14, rfl⟩ : ∃ zq9, zq9 = u := ⟨_, rfl⟩
              have hP : va_P G vwCl [kX12 h q1 q4 q5 q6 q7 q9 q10 q11 (upd x 0 v_5), aI y q5 154 f, aI y q6 154 (s_X12_does_w1 ((nI (L0 / 100000 ^ r1)) / 10000) (((nI (L0 / 100000 ^ r1)) / 1000) - ((nI (L0 / 100000 ^ r1)) / 1000) / 10 * 10) ((nI (L0 / 100000 ^ r1)) - (nI (L0 / 100000 ^ r1)) / 1000 * 1000) w), aI y q11 20 o_14] H := hP
              have hD : va_D A [kX12 h q1 q4 q5 q6 q7 q9 q10 q11 (upd x 0 v_5), aI y q5 154 f, aI y q6 154 (s_X12_does_w1 ((nI (L0 / 100000 ^ r1)) / 10000) (((nI (L0 / 100000 ^ r1)) / 1000) - ((nI (L0 / 100000 ^ r1)) / 1000) / 10 * 10) ((nI (L0 / 100000 ^ r1)) - (nI (L0 / 100000 ^ r1)) / 1000 * 1000) w), aI y q11 20 o_14] := hD
              refine lv_if_ne (tgt := 144) hx hb dX12_runScript_138 (by decide) (fun c_15 => ?_) (fun c_15 => ?_)
              · refine lv_iinc (v := (x8 + 1)) (lv' := [(8, .int (x8 + 1)), (6, .long (x6 - x6 / (x4 / 100000) * (x4 / 100000))), (9, .int (nI (L0 / 100000 ^ r1))), (4, .long (x4 / 100000)), (0, .ref h), (1, .int a1)]) hx hb dX12_runScript_144 hl (k := 3) rfl (by first | rfl | decide) (by decide) rfl (fun ls hl => ?_)
                refine lv_goto (tgt := 84) hx hb dX12_runScript_147 (by decide) ?_
                exact ih_11 (k0 + 1) r1 (L0 % 100000 ^ r1) (x4 / 100000) (x6 - x6 / (x4 / 100000) * (x4 / 100000)) (x8 + 1) (s_X12_does_w1 ((nI (L0 / 100000 ^ r1)) / 10000) (((nI (L0 / 100000 ^ r1)) / 1000) - ((nI (L0 / 100000 ^ r1)) / 1000) / 10 * 10) ((nI (L0 / 100000 ^ r1)) - (nI (L0 / 100000 ^ r1)) / 1000 * 1000) w) o_14 (by rw [hx8]; exact nI_1 k0) (by omega) (by exact hP9) (by exact hR9) (Nat.mod_lt _ pw_pos) (does_SM ⟨hT9, hO9, hM9⟩) (by rw [d_a hg9, d_b hg9, d_c hg9]; exact (if_neg (by have h9 := c_15; rw [d_a hg9, d_b hg9, d_c hg9] at h9; exact h9)).symm.trans hres) (by omega) H locs hP hD hS ls (lv_sub hl [0, 1, 3, 4, 5] rfl)
              · refine lv_iload hx hb dX12_runScript_141 (lv_at hl 3 rfl) ?_
                refine rw_i (x' := (scS (tn a1) (tl a2) 0 f)) (by rw [← hres, hx8]; exact (if_pos (by have h9 := c_15; rw [d_a hg9, d_b hg9, d_c hg9] at h9; exact h9)).symm) ?_
                rw [hQQ]
                exact W.iret hx hb hr (end_Hi ⟨(s_X12_does_w1 ((nI (L0 / 100000 ^ r1)) / 10000) (((nI (L0 / 100000 ^ r1)) / 1000) - ((nI (L0 / 100000 ^ r1)) / 1000) / 10 * 10) ((nI (L0 / 100000 ^ r1)) - (nI (L0 / 100000 ^ r1)) / 1000 * 1000) w), o_14⟩ hP hD hS (by subst e_v_5; subst e_v_2; unfold s_X12_runScript_r; exact (if_pos c_8).symm) (congrArg (fun (z0 : Nat → Int32) => [kX12 h q1 q4 q5 q6 q7 q9 q10 q11 z0, aI y q5 154 f, aI y q6 154 (s_X12_does_w1 ((nI (L0 / 100000 ^ r1)) / 10000) (((nI (L0 / 100000 ^ r1)) / 1000) - ((nI (L0 / 100000 ^ r1)) / 1000) / 10 * 10) ((nI (L0 / 100000 ^ r1)) - (nI (L0 / 100000 ^ r1)) / 1000 * 1000) w), aI y q11 20 o_14]) (by subst e_v_5; subst e_v_2; unfold s_X12_runScript_w0; exact rfl))) hS.2.2 dX12_runScript_143
        exact LOOP84_9 ((tn a1) + 1) 0 (tn a1) (tl a2) v_2 a2 0 f o rfl (by omega) hv1 hs1 hs2 hg rfl (Nat.lt_succ_self _) H locs hP hD hS ls (lv_sub hl [0, 1, 2, 3, 4] rfl)
      · refine lv_iconst (v := 0) hx hb dX12_runScript_63 (by decide) ?_
        rw [hQQ]
        exact W.iret hx hb hr (end_Hi ⟨g, o⟩ hP hD hS (by subst e_v_5; subst e_v_2; unfold s_X12_runScript_r; exact (if_neg c_8).symm) (congrArg (fun (z0 : Nat → Int32) => [kX12 h q1 q4 q5 q6 q7 q9 q10 q11 z0, aI y q5 154 f, aI y q6 154 g, aI y q11 20 o]) (by subst e_v_5; subst e_v_2; unfold s_X12_runScript_w0; exact rfl))) hS.2.2 dX12_runScript_64
    refine lv_if_eq (tgt := 56) hx hb dX12_runScript_37 (by decide) (fun c_4 => ?_) (fun c_4 => ?_)
    · refine lv_iconst (v := 1) hx hb dX12_runScript_56 (by decide) ?_
      exact J57_7 _ (if_pos c_4).symm (Or.inr rfl) ls (lv_sub hl [0, 1, 2, 3] rfl)
    · refine lv_lload_n hx hb dX12_runScript_40 rfl (lv_at hl 3 rfl) ?_
      refine lv_lconst (v := 0) hx hb dX12_runScript_41 rfl ?_
      refine lv_lload hx hb dX12_runScript_42 (lv_at hl 0 rfl) ?_
      refine lv_lconst (v := 1) hx hb dX12_runScript_44 rfl ?_
      refine lv_lsub hx hb dX12_runScript_45 ?_
      refine cl_Ri (va_runS (As := [.long a2, .long 0, .long (v_2 - 1)]) (rest := [.ref h]) ⟨hx, hb, hml, hown, hts⟩ (c_X12_in l G y a2 0 (v_2 - 1)) (va_cwS 3 hts gX12_runScript_X12_in rfl rfl rfl (by decide +kernel) ⟨Nat.le_of_ble_eq_true rfl, Nat.le_of_ble_eq_true rfl⟩) (PR_S pnil hK hN) rfl rfl hl.1 rfl (lv_room (Nat.le_of_ble_eq_true rfl)) dX12_runScript_46 ⟨Nat.le_of_ble_eq_true rfl, Nat.le_of_ble_eq_true rfl⟩) ?_
      refine lv_if_eq (tgt := 56) hx hb dX12_runScript_49 (by decide) (fun c_16 => ?_) (fun c_16 => ?_)
      · refine lv_iconst (v := 1) hx hb dX12_runScript_56 (by decide) ?_
        exact J57_7 _ ((if_neg c_4).trans (if_pos c_16)).symm (Or.inr rfl) ls (lv_sub hl [0, 1, 2, 3] rfl)
      · refine lv_iconst (v := 0) hx hb dX12_runScript_52 (by decide) ?_
        refine lv_goto (tgt := 57) hx hb dX12_runScript_53 (by decide) ?_
        exact J57_7 _ ((if_neg c_4).trans (if_neg c_16)).symm (Or.inl rfl) ls (lv_sub hl [0, 1, 2, 3] rfl)
  refine lv_icmp_ne (tgt := 11) hx hb dX12_runScript_2 (by decide) (fun c_1 => ?_) (fun c_1 => ?_)
  · refine lv_iload_n hx hb dX12_runScript_11 rfl (lv_at hl 1 rfl) ?_
    refine lv_iconst (v := 2) hx hb dX12_runScript_12 (by decide) ?_
    refine lv_icmp_ne (tgt := 22) hx hb dX12_runScript_13 (by decide) (fun c_17 => ?_) (fun c_17 => ?_)
    · refine lv_ldc2 (v := 1000000000000000) hx hb hown (hts (.constantLong RX12 231 1000000000000000) (by decide +kernel)) dX12_runScript_22 ?_
      exact J25_3 _ ((if_neg c_1).trans (if_neg c_17)).symm ls (lv_sub hl [0, 1, 2] rfl)
    · refine lv_ldc2 (v := 10000000000) hx hb hown (hts (.constantLong RX12 229 10000000000) (by decide +kernel)) dX12_runScript_16 ?_
      refine lv_goto (tgt := 25) hx hb dX12_runScript_19 (by decide) ?_
      exact J25_3 _ ((if_neg c_1).trans (if_pos c_17)).symm ls (lv_sub hl [0, 1, 2] rfl)
  · refine lv_ldc2 (v := 100000) hx hb hown (hts (.constantLong RX12 227 100000) (by decide +kernel)) dX12_runScript_5 ?_
    refine lv_goto (tgt := 25) hx hb dX12_runScript_8 (by decide) ?_
    exact J25_3 _ (if_pos c_1).symm ls (lv_sub hl [0, 1, 2] rfl)

def s_X12_simulate_r (a1 : Int64) (a2 : Int32) (f : Nat → Int32) : Int32 := (let v_2 : Int32 := (if (s_X12_in_r a2.toInt64 1 60) = 0 then 1 else 0); (if (s_X12_refused_r v_2) = 0 then ((100000 * (nI (goodP ((simS f a1 (tn a2)).2)))) + (((simS f a1 (tn a2)).2) 12)) else 0))
def s_X12_simulate_w0 (a2 : Int32) (x : Nat → Int32) : Nat → Int32 := (let v_2 : Int32 := (if (s_X12_in_r a2.toInt64 1 60) = 0 then 1 else 0); (upd x 0 v_2))
abbrev rmX12_simulate : Room := ({ frames := 5, cells := 0, slots := 0, locals := 109 } : Room)
set_option maxHeartbeats 4000000 in
set_option maxRecDepth 100000 in
theorem c_X12_simulate (l : Launch) (G : va_G) (y : Nat → ClassId) (h : Nat) (a1 : Int64) (a2 : Int32) (q1 : Nat) (q4 : Nat) (q5 : Nat) (q6 : Nat) (q7 : Nat) (q9 : Nat) (q10 : Nat) (q11 : Nat) (x : Nat → Int32) (f : Nat → Int32) (g : Nat → Int32) (o : Nat → Int32) (sz : Nat) (hg : TK f) : Met l yX12_simulate wsX12_simulate rmX12_simulate (PH G y [.ref h, .long a1, .int a2] [kX12 h q1 q4 q5 q6 q7 q9 q10 q11 x, aI y q5 154 f, aI y q6 154 g, aI y q11 20 o] sz) (QHi G (s_X12_simulate_r a1 a2 f) (fun u : (Nat → Int32) × (Nat → Int32) => [kX12 h q1 q4 q5 q6 q7 q9 q10 q11 (s_X12_simulate_w0 a2 x), aI y q5 154 f, aI y q6 154 u.1, aI y q11 20 u.2]) (va_A [kX12 h q1 q4 q5 q6 q7 q9 q10 q11 x, aI y q5 154 f, aI y q6 154 g, aI y q11 20 o] sz)) 0 0 (va_A [kX12 h q1 q4 q5 q6 q7 q9 q10 q11 x, aI y q5 154 f, aI y q6 154 g, aI y q11 20 o] sz) := by
  refine Met.ofW (cc := cX12_simulate) (maxL := 8) (ret := (some .int)) (by decide) rfl ?_
  intro p e s m args below meth c s₁ B hml hv
  obtain ⟨rfl, hsz, hP, ⟨hK, hN⟩, hD0⟩ := hv
  have hx := B.exec
  have hb := B.bytes
  have hr := B.returns
  have hts := atoms_spec (ws := wsX12_simulate) B.pre
  have hown : s.vm.findClass RX12 = some m.cls := findClass_of_methodNamed B.named
  have hlocks := B.notSynchronized
  have i_X12 : ∀ w ∈ u_ws RX12 TX12 15, w ∈ wsX12_simulate := by decide +kernel
  subst hsz
  have hD := hD0.self (sz := s.heap.size)
  generalize hAe : va_A [kX12 h q1 q4 q5 q6 q7 q9 q10 q11 x, aI y q5 154 f, aI y q6 154 g, aI y q11 20 o] s.heap.size = A at hD ⊢
  have hA : ∀ q : Nat, s.heap.size ≤ q → A q := fun q h => by rw [← hAe]; exact Or.inr h
  have hS : va_S A s.heap s.heap [] := va_S.rf
  have hP : va_P G vwCl [kX12 h q1 q4 q5 q6 q7 q9 q10 q11 x, aI y q5 154 f, aI y q6 154 g, aI y q11 20 o] s.heap := hP
  have hl := lv_entry ([.ref h, .long a1, .int a2]) (n := 8) (Nat.le_of_ble_eq_true rfl)
  rw [lg_entry_eq]
  generalize (lg_sl ([.ref h, .long a1, .int a2]) ++ List.replicate (8 - (lg_sl ([.ref h, .long a1, .int a2])).length) Slot.unset).toArray = ls at hl ⊢
  have hl : lv_has ls 8 [(0, .ref h), (1, .long a1), (3, .int a2)] := hl
  obtain ⟨QQ, hQQ⟩ : ∃ zq9, zq9 = MQ below (QHi G (s_X12_simulate_r a1 a2 f) (fun u : (Nat → Int32) × (Nat → Int32) => [kX12 h q1 q4 q5 q6 q7 q9 q10 q11 (s_X12_simulate_w0 a2 x), aI y q5 154 f, aI y q6 154 u.1, aI y q11 20 u.2]) A) ([.ref h, .long a1, .int a2] : List Value).toArray s 0 0 A := ⟨_, rfl⟩
  rw [← hQQ]
  refine lv_aload_n hx hb dX12_simulate_0 rfl (lv_at hl 0 rfl) ?_
  refine lv_iload_n hx hb dX12_simulate_1 rfl (lv_at hl 2 rfl) ?_
  refine lv_i2l (v := a2.toInt64) hx hb dX12_simulate_2 rfl ?_
  refine lv_lconst (v := 1) hx hb dX12_simulate_3 rfl ?_
  refine lv_ldc2 (v := 60) hx hb hown (hts (.constantLong RX12 236 60) (by decide +kernel)) dX12_simulate_4 ?_
  refine cl_Ri (va_runS (As := [.long a2.toInt64, .long 1, .long 60]) (rest := [.ref h]) ⟨hx, hb, hml, hown, hts⟩ (c_X12_in l G y a2.toInt64 1 60) (va_cwS 3 hts gX12_simulate_X12_in rfl rfl rfl (by decide +kernel) ⟨Nat.le_of_ble_eq_true rfl, Nat.le_of_ble_eq_true rfl⟩) (PR_S pnil hK hN) rfl rfl hl.1 rfl (lv_room (Nat.le_of_ble_eq_true rfl)) dX12_simulate_7 ⟨Nat.le_of_ble_eq_true rfl, Nat.le_of_ble_eq_true rfl⟩) ?_
  have J18_4 : ∀ (v_2 : Int32) (e_v_2 : v_2 = (if (s_X12_in_r a2.toInt64 1 60) = 0 then 1 else 0)) (z_3 : v_2 = 0 ∨ v_2 = 1) (ls : Array Slot) (hl : lv_has ls 8 [(0, .ref h), (1, .long a1), (3, .int a2)]), W p l e (headSpec wsX12_simulate rmX12_simulate).room s m ([.ref h, .long a1, .int a2] : List Value).toArray below meth c s.heap [] 0 0 QQ (F0 m 18 ls [.int v_2, .ref h]) := by
    intro v_2 e_v_2 z_3 ls hl
    refine cl_Hi (wr := [aI y q5 154 f, aI y q6 154 g, aI y q11 20 o]) (fun _ : Unit => [kX12 h q1 q4 q5 q6 q7 q9 q10 q11 (upd x 0 v_2), aI y q5 154 f, aI y q6 154 g, aI y q11 20 o]) [0] [1, 2, 3] [3, 0, 1, 2] (va_runV (As := [.int v_2]) (rest := []) ⟨hx, hb, hml, hown, hts⟩ (c_X12_refused l G y h v_2 q1 q4 q5 q6 q7 q9 q10 q11 x s.heap.size) (cwV 1 hts gX12_simulate_X12_refused rfl rfl rfl (by decide +kernel) ⟨Nat.le_of_ble_eq_true rfl, Nat.le_of_ble_eq_true rfl⟩) (PH_V (hP.sub (ws' := [kX12 h q1 q4 q5 q6 q7 q9 q10 q11 x]) [0] rfl) hK hN (hD.sub (ws' := [kX12 h q1 q4 q5 q6 q7 q9 q10 q11 x]) [0] (by decide) rfl) (ci := 10) (q0 := 0) rfl rfl) rfl rfl hl.1 rfl (lv_room (Nat.le_of_ble_eq_true rfl)) dX12_simulate_18 ⟨Nat.le_of_ble_eq_true rfl, Nat.le_of_ble_eq_true rfl⟩) hP hD hS hA rfl rfl rfl (by decide) rfl (fun _ => rfl) (fun _ H locs hP hD hS => ?_)
    have hP : va_P G vwCl [kX12 h q1 q4 q5 q6 q7 q9 q10 q11 (upd x 0 v_2), aI y q5 154 f, aI y q6 154 g, aI y q11 20 o] H := hP
    have hD : va_D A [kX12 h q1 q4 q5 q6 q7 q9 q10 q11 (upd x 0 v_2), aI y q5 154 f, aI y q6 154 g, aI y q11 20 o] := hD
    refine lv_if_eq (tgt := 26) hx hb dX12_simulate_21 (by decide) (fun c_5 => ?_) (fun c_5 => ?_)
    · have hin : vp_in a2 61 := in_vp (ref01 e_v_2 c_5) (by decide) (by decide)
      obtain ⟨ha1, ha2⟩ := in_tn hin (by decide)
      refine lv_aload_n hx hb dX12_simulate_26 rfl (lv_at hl 0 rfl) ?_
      refine va_get (D := G) (ci := 10) (v := .ref q5) (C := RX12) (T := TX12) (N := 15) hx hb hts i_X12 hown hK hP 0 rfl rfl 5 (by decide) (hts (.fieldLink RX12 16 "RelayTunerModel" "now" "[I") (by decide +kernel)) (fun _ h9 => h9) rfl dX12_simulate_27 ?_
      refine lv_iconst (v := 0) hx hb dX12_simulate_30 (by decide) ?_
      refine lv_aload_n hx hb dX12_simulate_31 rfl (lv_at hl 0 rfl) ?_
      refine va_get (D := G) (ci := 10) (v := .ref q6) (C := RX12) (T := TX12) (N := 15) hx hb hts i_X12 hown hK hP 0 rfl rfl 6 (by decide) (hts (.fieldLink RX12 19 "RelayTunerModel" "trial" "[I") (by decide +kernel)) (fun _ h9 => h9) rfl dX12_simulate_32 ?_
      refine lv_iconst (v := 0) hx hb dX12_simulate_35 (by decide) ?_
      refine cl_Hv (wr := [kX12 h q1 q4 q5 q6 q7 q9 q10 q11 (upd x 0 v_2), aI y q11 20 o]) (fun _ : Unit => [kX12 h q1 q4 q5 q6 q7 q9 q10 q11 (upd x 0 v_2), aI y q5 154 f, aI y q6 154 (va_cpy f g 0 0 154), aI y q11 20 o]) [1, 2] [0, 3] [0, 2, 3, 1] (va_runS (As := [.ref q5, .int 0, .ref q6, .int 0]) (rest := []) ⟨hx, hb, hml, hown, hts⟩ (c_X12_copyPage l G y q5 0 q6 0 f g 0 0 154 154 H.size rfl (by decide) (by decide) rfl (by decide) (by decide)) (va_cwS 4 hts gX12_simulate_X12_copyPage rfl rfl rfl (by decide +kernel) ⟨Nat.le_of_ble_eq_true rfl, Nat.le_of_ble_eq_true rfl⟩) (PH_S (hP.sub (ws' := [aI y q5 154 f, aI y q6 154 g]) [1, 2] rfl) hK hN (hD.sub (ws' := [aI y q5 154 f, aI y q6 154 g]) [1, 2] (by decide) rfl)) rfl rfl hl.1 rfl (lv_room (Nat.le_of_ble_eq_true rfl)) dX12_simulate_36 ⟨Nat.le_of_ble_eq_true rfl, Nat.le_of_ble_eq_true rfl⟩) hP hD hS hA rfl rfl rfl (by decide) rfl (fun _ => rfl) (fun _ H locs hP hD hS => ?_)
      have hP : va_P G vwCl [kX12 h q1 q4 q5 q6 q7 q9 q10 q11 (upd x 0 v_2), aI y q5 154 f, aI y q6 154 (va_cpy f g 0 0 154), aI y q11 20 o] H := hP
      have hD : va_D A [kX12 h q1 q4 q5 q6 q7 q9 q10 q11 (upd x 0 v_2), aI y q5 154 f, aI y q6 154 (va_cpy f g 0 0 154), aI y q11 20 o] := hD
      have hD := va_D.set (p := 2) (e := (aI y q6 154 f).2) hD rfl
      have hP := alike1 (i := 2) (g := f) hP rfl (fun j hj => cpy_all hj)
      have hP : va_P G vwCl [kX12 h q1 q4 q5 q6 q7 q9 q10 q11 (upd x 0 v_2), aI y q5 154 f, aI y q6 154 f, aI y q11 20 o] H := hP
      have hD : va_D A [kX12 h q1 q4 q5 q6 q7 q9 q10 q11 (upd x 0 v_2), aI y q5 154 f, aI y q6 154 f, aI y q11 20 o] := hD
      refine lv_lload_n hx hb dX12_simulate_39 rfl (lv_at hl 1 rfl) ?_
      refine lv_lstore (lv' := [(4, .long a1), (0, .ref h), (1, .long a1), (3, .int a2)]) hx hb dX12_simulate_40 hl (by decide) rfl (fun ls hl => ?_)
      refine lv_iconst (v := 0) hx hb dX12_simulate_42 (by decide) ?_
      refine lv_istore (lv' := [(6, .int 0), (4, .long a1), (0, .ref h), (1, .long a1), (3, .int a2)]) hx hb dX12_simulate_43 hl (by decide) rfl (fun ls hl => ?_)
      have LOOP45_6 : ∀ (n_7 : Nat) (k0 : Nat) (x4 : Int64) (x6 : Int32) (w : Nat → Int32) (hx4 : x4 = (simS f a1 k0).1) (hx6 : x6 = nI k0) (hk : k0 ≤ tn a2) (hw : w = (simS f a1 k0).2) (hn_9 : tn a2 - k0 < n_7) (H : Heap) (locs : List Loc) (hP : va_P G vwCl [kX12 h q1 q4 q5 q6 q7 q9 q10 q11 (upd x 0 v_2), aI y q5 154 f, aI y q6 154 w, aI y q11 20 o] H) (hD : va_D A [kX12 h q1 q4 q5 q6 q7 q9 q10 q11 (upd x 0 v_2), aI y q5 154 f, aI y q6 154 w, aI y q11 20 o]) (hS : va_S A s.heap H locs) (ls : Array Slot) (hl : lv_has ls 8 [(6, .int x6), (4, .long x4), (0, .ref h), (3, .int a2)]), W p l e (headSpec wsX12_simulate rmX12_simulate).room s m ([.ref h, .long a1, .int a2] : List Value).toArray below meth c H locs 0 0 QQ (F0 m 45 ls []) := by
        intro n_7
        induction n_7 with
        | zero => intro k0 x4 x6 w hx4 hx6 hk hw hn_9 H locs hP hD hS ls hl; exact absurd hn_9 (Nat.not_lt_zero _)
        | succ n_7 ih_8 =>
          intro k0 x4 x6 w hx4 hx6 hk hw hn_9 H locs hP hD hS ls hl
          refine lv_iload hx hb dX12_simulate_45 (lv_at hl 0 rfl) ?_
          refine lv_iload_n hx hb dX12_simulate_47 rfl (lv_at hl 3 rfl) ?_
          refine lv_icmp_ge (tgt := 111) hx hb dX12_simulate_48 (by decide) (fun c_10 => ?_) (fun c_10 => ?_)
          · have hk9 : k0 = tn a2 := by have := kge hx6 ha1 (by omega) (by omega) c_10; omega
            rw [hk9] at hw
            have hT9 : TK w := by rw [hw]; exact sim_TK hg _
            subst hw
            refine lv_ldc (v := 100000) hx hb hown (hts (.constant RX12 242 100000) (by decide +kernel)) dX12_simulate_111 ?_
            refine lv_aload_n hx hb dX12_simulate_113 rfl (lv_at hl 2 rfl) ?_
            refine lv_aload_n hx hb dX12_simulate_114 rfl (lv_at hl 2 rfl) ?_
            refine va_get (D := G) (ci := 10) (v := .ref q6) (C := RX12) (T := TX12) (N := 15) hx hb hts i_X12 hown hK hP 0 rfl rfl 6 (by decide) (hts (.fieldLink RX12 19 "RelayTunerModel" "trial" "[I") (by decide +kernel)) (fun _ h9 => h9) rfl dX12_simulate_115 ?_
            refine cl_Hi (wr := [aI y q5 154 f]) (fun u : (Nat → Int32) => [kX12 h q1 q4 q5 q6 q7 q9 q10 q11 (upd x 0 v_2), aI y q5 154 f, aI y q6 154 ((simS f a1 (tn a2)).2), aI y q11 20 u]) [0, 2, 3] [1] [1, 0, 2, 3] (va_runV (As := [.ref q6]) (rest := [.int 100000]) ⟨hx, hb, hml, hown, hts⟩ (c_X12_goodOf l G y h q6 q1 q4 q5 q6 q7 q9 q10 q11 (upd x 0 v_2) ((simS f a1 (tn a2)).2) o H.size hT9.2.2.2) (cwV 1 hts gX12_simulate_X12_goodOf rfl rfl rfl (by decide +kernel) ⟨Nat.le_of_ble_eq_true rfl, Nat.le_of_ble_eq_true rfl⟩) (PH_V (hP.sub (ws' := [kX12 h q1 q4 q5 q6 q7 q9 q10 q11 (upd x 0 v_2), aI y q6 154 ((simS f a1 (tn a2)).2), aI y q11 20 o]) [0, 2, 3] rfl) hK hN (hD.sub (ws' := [kX12 h q1 q4 q5 q6 q7 q9 q10 q11 (upd x 0 v_2), aI y q6 154 ((simS f a1 (tn a2)).2), aI y q11 20 o]) [0, 2, 3] (by decide) rfl) (ci := 10) (q0 := 0) rfl rfl) rfl rfl hl.1 rfl (lv_room (Nat.le_of_ble_eq_true rfl)) dX12_simulate_118 ⟨Nat.le_of_ble_eq_true rfl, Nat.le_of_ble_eq_true rfl⟩) hP hD hS hA rfl rfl rfl (by decide) rfl (fun _ => rfl) (fun u H locs hP hD hS => ?_)
            obtain ⟨o_11, rfl⟩ : ∃ zq9, zq9 = u := ⟨_, rfl⟩
            have hP : va_P G vwCl [kX12 h q1 q4 q5 q6 q7 q9 q10 q11 (upd x 0 v_2), aI y q5 154 f, aI y q6 154 ((simS f a1 (tn a2)).2), aI y q11 20 o_11] H := hP
            have hD : va_D A [kX12 h q1 q4 q5 q6 q7 q9 q10 q11 (upd x 0 v_2), aI y q5 154 f, aI y q6 154 ((simS f a1 (tn a2)).2), aI y q11 20 o_11] := hD
            refine lv_imul hx hb dX12_simulate_121 ?_
            refine lv_aload_n hx hb dX12_simulate_122 rfl (lv_at hl 2 rfl) ?_
            refine va_get (D := G) (ci := 10) (v := .ref q6) (C := RX12) (T := TX12) (N := 15) hx hb hts i_X12 hown hK hP 0 rfl rfl 6 (by decide) (hts (.fieldLink RX12 19 "RelayTunerModel" "trial" "[I") (by decide +kernel)) (fun _ h9 => h9) rfl dX12_simulate_123 ?_
            refine lv_bipush (v := 12) hx hb dX12_simulate_126 (by decide) ?_
            refine al_i (D := G) (n := 154) (f := ((simS f a1 (tn a2)).2)) hx hb hK hP 2 0 rfl rfl 12 rfl (by decide) (by first | decide | omega) dX12_simulate_128 ?_
            refine lv_iadd hx hb dX12_simulate_129 ?_
            rw [hQQ]
            exact W.iret hx hb hr (end_Hi ⟨(simS f a1 (tn a2)).2, o_11⟩ hP hD hS (by subst e_v_2; unfold s_X12_simulate_r; exact (if_pos c_5).symm) (congrArg (fun (z0 : Nat → Int32) => [kX12 h q1 q4 q5 q6 q7 q9 q10 q11 z0, aI y q5 154 f, aI y q6 154 ((simS f a1 (tn a2)).2), aI y q11 20 o_11]) (by subst e_v_2; unfold s_X12_simulate_w0; exact rfl))) hS.2.2 dX12_simulate_130
          · have hk9 : k0 < tn a2 := klt hx6 ha1 (by omega) (by omega) c_10
            have hT7 : TK w := by rw [hw]; exact sim_TK hg k0
            refine lv_lload hx hb dX12_simulate_51 (lv_at hl 1 rfl) ?_
            refine lv_ldc2 (v := 6364136223846793005) hx hb hown (hts (.constantLong RX12 238 6364136223846793005) (by decide +kernel)) dX12_simulate_53 ?_
            refine lv_lmul hx hb dX12_simulate_56 ?_
            refine lv_ldc2 (v := 1442695040888963407) hx hb hown (hts (.constantLong RX12 240 1442695040888963407) (by decide +kernel)) dX12_simulate_57 ?_
            refine lv_ladd hx hb dX12_simulate_60 ?_
            refine rw_l (x' := (simN x4)) rfl ?_
            refine lv_lstore (lv' := [(4, .long (simN x4)), (6, .int x6), (0, .ref h), (3, .int a2)]) hx hb dX12_simulate_61 hl (by decide) rfl (fun ls hl => ?_)
            refine lv_lload hx hb dX12_simulate_63 (lv_at hl 0 rfl) ?_
            refine lv_bipush (v := 33) hx hb dX12_simulate_65 (by decide) ?_
            refine lv_lushr (v := ((simN x4).toUInt64 >>> ((33 : Int32).toInt64.toUInt64 &&& Int64.toUInt64 63)).toInt64) hx hb dX12_simulate_67 rfl ?_
            refine lv_l2i (v := (((simN x4).toUInt64 >>> ((33 : Int32).toInt64.toUInt64 &&& Int64.toUInt64 63)).toInt64).toInt32) hx hb dX12_simulate_68 rfl ?_
            refine rw_i (x' := (simR (simN x4))) rfl ?_
            refine lv_istore (lv' := [(7, .int (simR (simN x4))), (4, .long (simN x4)), (6, .int x6), (0, .ref h), (3, .int a2)]) hx hb dX12_simulate_69 hl (by decide) rfl (fun ls hl => ?_)
            refine lv_iload hx hb dX12_simulate_71 (lv_at hl 0 rfl) ?_
            refine lv_bipush (v := 8) hx hb dX12_simulate_73 (by decide) ?_
            refine lv_irem hx hb dX12_simulate_75 (by decide) ?_
            have J97_14 : ∀ (v_13 : Nat → Int32) (e_v_13 : v_13 = (if ((simR (simN x4)) - (simR (simN x4)) / 8 * 8) = 0 then (s_X12_disturbOn_w0 (simD (simR (simN x4))) w) else w)) (H : Heap) (locs : List Loc) (hP : va_P G vwCl [kX12 h q1 q4 q5 q6 q7 q9 q10 q11 (upd x 0 v_2), aI y q5 154 f, aI y q6 154 v_13, aI y q11 20 o] H) (hD : va_D A [kX12 h q1 q4 q5 q6 q7 q9 q10 q11 (upd x 0 v_2), aI y q5 154 f, aI y q6 154 v_13, aI y q11 20 o]) (hS : va_S A s.heap H locs) (ls : Array Slot) (hl : lv_has ls 8 [(4, .long (simN x4)), (6, .int x6), (0, .ref h), (3, .int a2)]), W p l e (headSpec wsX12_simulate rmX12_simulate).room s m ([.ref h, .long a1, .int a2] : List Value).toArray below meth c H locs 0 0 QQ (F0 m 97 ls []) := by
              intro v_13 e_v_13 H locs hP hD hS ls hl
              have hT8 : TK v_13 := by rw [e_v_13]; exact simG_TK (x := simN x4) hT7
              refine lv_aload_n hx hb dX12_simulate_97 rfl (lv_at hl 2 rfl) ?_
              refine va_get (D := G) (ci := 10) (v := .ref q6) (C := RX12) (T := TX12) (N := 15) hx hb hts i_X12 hown hK hP 0 rfl rfl 6 (by decide) (hts (.fieldLink RX12 19 "RelayTunerModel" "trial" "[I") (by decide +kernel)) (fun _ h9 => h9) rfl dX12_simulate_98 ?_
              refine lv_iconst (v := 3) hx hb dX12_simulate_101 (by decide) ?_
              refine cl_Hv (wr := [kX12 h q1 q4 q5 q6 q7 q9 q10 q11 (upd x 0 v_2), aI y q5 154 f, aI y q11 20 o]) (fun _ : Unit => [kX12 h q1 q4 q5 q6 q7 q9 q10 q11 (upd x 0 v_2), aI y q5 154 f, aI y q6 154 (itF s_X12_tickOn_w0 3 v_13), aI y q11 20 o]) [2] [0, 1, 3] [0, 1, 3, 2] (va_runS (As := [.ref q6, .int 3]) (rest := []) ⟨hx, hb, hml, hown, hts⟩ (c_X12_ticksOn l G y q6 3 v_13 3 H.size hT8 rfl (by decide)) (va_cwS 2 hts gX12_simulate_X12_ticksOn rfl rfl rfl (by decide +kernel) ⟨Nat.le_of_ble_eq_true rfl, Nat.le_of_ble_eq_true rfl⟩) (PH_S (hP.sub (ws' := [aI y q6 154 v_13]) [2] rfl) hK hN (hD.sub (ws' := [aI y q6 154 v_13]) [2] (by decide) rfl)) rfl rfl hl.1 rfl (lv_room (Nat.le_of_ble_eq_true rfl)) dX12_simulate_102 ⟨Nat.le_of_ble_eq_true rfl, Nat.le_of_ble_eq_true rfl⟩) hP hD hS hA rfl rfl rfl (by decide) rfl (fun _ => rfl) (fun _ H locs hP hD hS => ?_)
              have hP : va_P G vwCl [kX12 h q1 q4 q5 q6 q7 q9 q10 q11 (upd x 0 v_2), aI y q5 154 f, aI y q6 154 (itF s_X12_tickOn_w0 3 v_13), aI y q11 20 o] H := hP
              have hD : va_D A [kX12 h q1 q4 q5 q6 q7 q9 q10 q11 (upd x 0 v_2), aI y q5 154 f, aI y q6 154 (itF s_X12_tickOn_w0 3 v_13), aI y q11 20 o] := hD
              refine lv_iinc (v := (x6 + 1)) (lv' := [(6, .int (x6 + 1)), (4, .long (simN x4)), (0, .ref h), (3, .int a2)]) hx hb dX12_simulate_105 hl (k := 1) rfl (by first | rfl | decide) (by decide) rfl (fun ls hl => ?_)
              refine lv_goto (tgt := 45) hx hb dX12_simulate_108 (by decide) ?_
              exact ih_8 (k0 + 1) (simN x4) (x6 + 1) (itF s_X12_tickOn_w0 3 v_13) (by rw [hx4]; exact simS_1.symm) (by rw [hx6]; exact nI_1 k0) (by omega) (sim_st hx4 hw e_v_13) (by omega) H locs hP hD hS ls (lv_sub hl [0, 1, 2, 3] rfl)
            refine lv_if_ne (tgt := 97) hx hb dX12_simulate_76 (by decide) (fun c_12 => ?_) (fun c_12 => ?_)
            · exact J97_14 _ (if_neg c_12).symm H locs hP hD hS ls (lv_sub hl [1, 2, 3, 4] rfl)
            · refine lv_aload_n hx hb dX12_simulate_79 rfl (lv_at hl 3 rfl) ?_
              refine va_get (D := G) (ci := 10) (v := .ref q6) (C := RX12) (T := TX12) (N := 15) hx hb hts i_X12 hown hK hP 0 rfl rfl 6 (by decide) (hts (.fieldLink RX12 19 "RelayTunerModel" "trial" "[I") (by decide +kernel)) (fun _ h9 => h9) rfl dX12_simulate_80 ?_
              refine lv_iload hx hb dX12_simulate_83 (lv_at hl 0 rfl) ?_
              refine lv_bipush (v := 8) hx hb dX12_simulate_85 (by decide) ?_
              refine lv_idiv hx hb dX12_simulate_87 (by decide) ?_
              refine lv_bipush (v := 81) hx hb dX12_simulate_88 (by decide) ?_
              refine lv_irem hx hb dX12_simulate_90 (by decide) ?_
              refine lv_bipush (v := 40) hx hb dX12_simulate_91 (by decide) ?_
              refine lv_isub hx hb dX12_simulate_93 ?_
              refine rw_i (x' := (simD (simR (simN x4)))) rfl ?_
              refine cl_Hv (wr := [kX12 h q1 q4 q5 q6 q7 q9 q10 q11 (upd x 0 v_2), aI y q5 154 f, aI y q11 20 o]) (fun _ : Unit => [kX12 h q1 q4 q5 q6 q7 q9 q10 q11 (upd x 0 v_2), aI y q5 154 f, aI y q6 154 (s_X12_disturbOn_w0 (simD (simR (simN x4))) w), aI y q11 20 o]) [2] [0, 1, 3] [0, 1, 3, 2] (va_runS (As := [.ref q6, .int (simD (simR (simN x4)))]) (rest := []) ⟨hx, hb, hml, hown, hts⟩ (c_X12_disturbOn l G y q6 (simD (simR (simN x4))) w H.size) (va_cwS 2 hts gX12_simulate_X12_disturbOn rfl rfl rfl (by decide +kernel) ⟨Nat.le_of_ble_eq_true rfl, Nat.le_of_ble_eq_true rfl⟩) (PH_S (hP.sub (ws' := [aI y q6 154 w]) [2] rfl) hK hN (hD.sub (ws' := [aI y q6 154 w]) [2] (by decide) rfl)) rfl rfl hl.1 rfl (lv_room (Nat.le_of_ble_eq_true rfl)) dX12_simulate_94 ⟨Nat.le_of_ble_eq_true rfl, Nat.le_of_ble_eq_true rfl⟩) hP hD hS hA rfl rfl rfl (by decide) rfl (fun _ => rfl) (fun _ H locs hP hD hS => ?_)
              have hP : va_P G vwCl [kX12 h q1 q4 q5 q6 q7 q9 q10 q11 (upd x 0 v_2), aI y q5 154 f, aI y q6 154 (s_X12_disturbOn_w0 (simD (simR (simN x4))) w), aI y q11 20 o] H := hP
              have hD : va_D A [kX12 h q1 q4 q5 q6 q7 q9 q10 q11 (upd x 0 v_2), aI y q5 154 f, aI y q6 154 (s_X12_disturbOn_w0 (simD (simR (simN x4))) w), aI y q11 20 o] := hD
              exact J97_14 _ (if_pos c_12).symm H locs hP hD hS ls (lv_sub hl [1, 2, 3, 4] rfl)
      exact LOOP45_6 (tn a2 - 0 + 1) 0 a1 0 f rfl rfl (by omega) rfl (Nat.lt_succ_self _) H locs hP hD hS ls (lv_sub hl [0, 1, 2, 4] rfl)
    · refine lv_iconst (v := 0) hx hb dX12_simulate_24 (by decide) ?_
      rw [hQQ]
      exact W.iret hx hb hr (end_Hi ⟨g, o⟩ hP hD hS (by subst e_v_2; unfold s_X12_simulate_r; exact (if_neg c_5).symm) (congrArg (fun (z0 : Nat → Int32) => [kX12 h q1 q4 q5 q6 q7 q9 q10 q11 z0, aI y q5 154 f, aI y q6 154 g, aI y q11 20 o]) (by subst e_v_2; unfold s_X12_simulate_w0; exact rfl))) hS.2.2 dX12_simulate_25
  refine lv_if_eq (tgt := 17) hx hb dX12_simulate_10 (by decide) (fun c_1 => ?_) (fun c_1 => ?_)
  · refine lv_iconst (v := 1) hx hb dX12_simulate_17 (by decide) ?_
    exact J18_4 _ (if_pos c_1).symm (Or.inr rfl) ls (lv_sub hl [0, 1, 2] rfl)
  · refine lv_iconst (v := 0) hx hb dX12_simulate_13 (by decide) ?_
    refine lv_goto (tgt := 18) hx hb dX12_simulate_14 (by decide) ?_
    exact J18_4 _ (if_neg c_1).symm (Or.inl rfl) ls (lv_sub hl [0, 1, 2] rfl)

/-! ===== calls that throw; scripts ===== -/
theorem an_k1 {k r : Int32} (h : k = 1) : an k r = -999002 := by subst h; rfl
theorem an_k2 {k r : Int32} (h : k = 2) : an k r = -999003 := by subst h; rfl
theorem an_k3 {k r : Int32} (h : k = 3) : an k r = -999001 := by subst h; rfl
theorem an_k0 {k r : Int32} (h : k = 0) : an k r = r := by subst h; rfl
theorem n1 {k : Int32} (h : k = 1) : ¬ k = 0 := by subst h; decide
theorem n2 {k : Int32} (h : k = 2) : ¬ k = 0 := by subst h; decide
theorem n3 {k : Int32} (h : k = 3) : ¬ k = 0 := by subst h; decide
section REFU
variable {z : Zs} {B : Int} {T : List Int32} {Hs : List Zs} {s0 s1 : Option Zs}
theorem ab_16 : qAbout 16 z = z 4 0 := rfl
theorem ab_17 : qAbout 17 z = s_X7_goodCount_r z := rfl
theorem ab_18 : qAbout 18 z = z 9 0 := rfl
theorem ab_12 : qAbout 12 z = z 1 5 := rfl
theorem k_lt0 {j : Nat} (h : j < 1000000) : ¬ nI j < 0 := fun q => absurd ((nI_ltI (a := j) (b := 0) (by omega) (by decide)).mp q) (Nat.not_lt_zero _)
theorem k_lt {d j : Nat} (h : d < 1000000) (hj : j < 1000000) (hd : j ≤ d) {D : Int32} (e : D = nI d) : ¬ D < nI j := fun q => by
  rw [e] at q
  exact absurd ((nI_ltI (a := d) (b := j) (by omega) (by omega)).mp q) (by omega)
theorem has_no {a : Int32} (h : z 4 0 ≤ a) : s_X8_has_r a (z 4) = 0 := by
  unfold s_X8_has_r
  (try dsimp only)
  by_cases c : a < 0
  · rw [if_pos c]
  · rw [if_neg c, if_pos h]
theorem has_yes {n j : Nat} (e : z 4 0 = nI n) (hn : n ≤ 20) (hj : j < n) : s_X8_has_r (nI j) (z 4) = 1 := by
  unfold s_X8_has_r
  (try dsimp only)
  have n2 : ¬ nI n ≤ nI j := fun q => absurd ((nI_leI (by omega) (by omega)).mp q) (by omega)
  have n3 : ¬ 20 ≤ nI j := fun q => absurd ((nI_leI (a := 20) (b := j) (by omega) (by omega)).mp q) (by omega)
  rw [if_neg (k_lt0 (j := j) (by omega)), e, if_neg n2, if_neg n3]
theorem tb_k (h : GZ B z) (c : ¬ (0 < qAbout 18 z)) : s_X11_takeBack_k z = 2 := by
  obtain ⟨n, hn, e, -⟩ := h.2.2.2.2.1
  have e0 : z 9 0 = 0 := by
    rw [ab_18, e] at c
    have : n = 0 := by
      have := mt (nI_ltI (a := 0) (b := n) (by decide) (by omega)).mpr c
      omega
    rw [e, this]; rfl
  exact if_pos e0
theorem cb_no (c : z 9 0 < 8 → qAbout 17 z ≤ 0) : s_X7_canBeginTrial_r z = 0 := by
  unfold s_X7_canBeginTrial_r
  (try dsimp only)
  by_cases c1 : 8 ≤ z 9 0
  · rw [if_pos c1]
  · rw [if_neg c1]
    exact if_pos (c (Int32.not_le.mp c1))
theorem cb_yes (c1 : ¬ 8 ≤ z 9 0) (c2 : ¬ qAbout 17 z ≤ 0) : s_X7_canBeginTrial_r z = 1 := by
  unfold s_X7_canBeginTrial_r
  (try dsimp only)
  rw [if_neg c1]
  exact if_neg c2
theorem tr_k {a : Int32} (ha : ¬ s_X11_isRule_r a = 0) (c : z 9 0 < 8 → qAbout 17 z ≤ 0) : s_X11_tryRule_k a z = 2 := by
  unfold s_X11_tryRule_k
  rw [if_neg ha, if_pos (cb_no c)]
theorem if01 {c : Prop} [Decidable c] (h : ¬ (if c then (1 : Int32) else 0) = 0) : c := Decidable.byContradiction (fun q => h (if_neg q))
theorem if01n {c : Prop} [Decidable c] (h : (if c then (1 : Int32) else 0) = 0) : ¬ c := fun q => by
  rw [if_pos q] at h
  exact absurd h (by decide)
theorem fx_refuses (h : GZ B z) : FX_refuses T z Hs s0 s1 := by
  have hk1 : s_X11_swing_k (qAbout 16 z) 5 z = 3 := if_pos (has_no (Int32.le_refl _))
  have hk2 : s_X11_discard_k (qAbout 16 z) z = 3 := if_pos (has_no (Int32.le_refl _))
  have hk3 : s_X11_tryRule_k 4 z = 3 := if_pos (by decide)
  have hs : ¬ (qAbout 16 z) = 0 → s_X11_swing_k 0 5 z = 1 := fun c => by
    obtain ⟨n, hn, e, -⟩ := h.2.2.2.1.2.2.2
    have hp : 0 < n := Nat.pos_of_ne_zero (fun q => c (by rw [ab_16, e, q]; rfl))
    have := has_yes e hn hp
    show (if s_X8_has_r (nI 0) (z 4) = 0 then 3 else _) = _
    rw [this]
    rfl
  have ht1 : ¬ ((if (qAbout 17 z) = 0 then (1 : Int32) else 0) = 0) → s_X11_tryRule_k 0 z = 2 := fun c => tr_k (by decide) (fun _ => by rw [if01 c]; exact Int32.le_refl _)
  have ht2 : (if (qAbout 17 z) = 0 then (1 : Int32) else 0) = 0 → ¬ ((qAbout 18 z) < 8) → s_X11_tryRule_k 0 z = 2 := fun _ c => tr_k (by decide) (fun q => absurd q c)
  refine ⟨rfl, an_k3 hk1, rfl, by decide, rfl, by decide, rfl, by decide, rfl, by decide, rfl, by decide, rfl, by decide, rfl, by decide, rfl, by decide, rfl, by decide, rfl, by decide, rfl, by decide, rfl, n3 hk2, an_k3 hk2, n3 hk3, an_k3 hk3, rfl, rfl, rfl, rfl, rfl, rfl, rfl, rfl, rfl, rfl, rfl, an_k1 (by decide +kernel), an_k1 (by decide +kernel), rfl, by decide, rfl, (by show ¬ (3 : Int32) = 0; decide), rfl, (by show ¬ (1 : Int32) = 0; decide), rfl, fun c => n2 (tb_k h c), fun c => an_k2 (tb_k h c), fun c => n2 (ht1 c), fun c => an_k2 (ht1 c), fun c d => n2 (ht2 c d), fun c d => an_k2 (ht2 c d), fun c => an_k1 (hs c)⟩
end REFU
section SCRI
variable {z : Zs} {B : Int}
/-- a script of one command -/
theorem sc_one {L : Int64} {g : Int32} (hk : s_X11_runScript_k 1 L = 0) (hg : ((bhS L 0 - bhS L 0 / 100000 * 100000).toInt32) = g) : qScript 1 L z = if s_X5_succeeds_r g z = 0 then 0 else -99999 := by
  subst hg
  unfold qScript
  rw [an_k0 hk]
  unfold s_X11_runScript_r
  have e : tn (1 : Int32) = 1 := rfl
  rw [e]
  rfl
theorem sc_no {L : Int64} {g : Int32} (hk : s_X11_runScript_k 1 L = 0 ∧ ((bhS L 0 - bhS L 0 / 100000 * 100000).toInt32) = g) (hs : s_X5_succeeds_r g z = 0) : qScript 1 L z = 0 := (sc_one hk.1 hk.2).trans (if_pos hs)
theorem sc_yes {L : Int64} {g : Int32} (hk : s_X11_runScript_k 1 L = 0 ∧ ((bhS L 0 - bhS L 0 / 100000 * 100000).toInt32) = g) (hs : s_X5_succeeds_r g z = 1) : qScript 1 L z = -99999 := (sc_one hk.1 hk.2).trans (if_neg (by rw [hs]; decide))
theorem cmd_1 {g : Int32} (c : g / 10000 = 1) : s_X5_succeeds_r g z = s_X7_pass_r (g - g / 10000 * 10000) := if_pos c
theorem cmd_2 {g : Int32} (c : g / 10000 = 2) : s_X5_succeeds_r g z = s_X7_changeMode_r (g - g / 10000 * 10000) := by
  unfold s_X5_succeeds_r; rw [c]; rfl
theorem cmd_3 {g : Int32} (c : g / 10000 = 3) : s_X5_succeeds_r g z = (if (s_X5_hasSign_r (g - g / 10000 * 10000)) = 0 then 0 else (if (s_X7_push_r (s_X5_signed_r (g - g / 10000 * 10000))) = 0 then 0 else 1)) := by
  unfold s_X5_succeeds_r; simp only [c]; rfl
theorem cmd_4 {g : Int32} (c : g / 10000 = 4) : s_X5_succeeds_r g z = (s_X7_put_r ((g - g / 10000 * 10000) / 1000) ((g - g / 10000 * 10000) - (g - g / 10000 * 10000) / 1000 * 1000)) := by
  unfold s_X5_succeeds_r; simp only [c]; rfl
theorem cmd_5 {g : Int32} (c : g / 10000 = 5) : s_X5_succeeds_r g z = (s_X7_beginTrial_r (g - g / 10000 * 10000) z) := by
  unfold s_X5_succeeds_r; simp only [c]; rfl
theorem cmd_6 {g : Int32} (c : g / 10000 = 6) : s_X5_succeeds_r g z = (if (g - g / 10000 * 10000) = 0 then (if (s_X7_endTrial_r z) = 0 then 0 else 1) else 0) := by
  unfold s_X5_succeeds_r; simp only [c]; rfl
theorem cmd_7 {g : Int32} (c : g / 10000 = 7) : s_X5_succeeds_r g z = (if (s_X5_hasSign_r (g - g / 10000 * 10000)) = 0 then 0 else (if ((z 1) 5) < (s_X5_signed_r (g - g / 10000 * 10000)) then 0 else 1)) := by
  unfold s_X5_succeeds_r; simp only [c]; rfl
theorem cmd_8 {g : Int32} (c : g / 10000 = 8) : s_X5_succeeds_r g z = (if 99 < (g - g / 10000 * 10000) then 0 else (if (s_X7_goodCount_r z) < (g - g / 10000 * 10000) then 0 else 1)) := by
  unfold s_X5_succeeds_r; simp only [c]; rfl
theorem cmd_9 {g : Int32} (c : g / 10000 = 9) : s_X5_succeeds_r g z = (if 9 < (g - g / 10000 * 10000) then 0 else (if ((z 9) 0) = (g - g / 10000 * 10000) then 1 else 0)) := by
  unfold s_X5_succeeds_r; simp only [c]; rfl
theorem cmd_0 {g : Int32} (c : g / 10000 = 0) : s_X5_succeeds_r g z = 0 := by
  unfold s_X5_succeeds_r; simp only [c]; rfl
/-- the numbers of scripts that stand in the law -/
theorem nb_8 : ∀ m : Fin 22, s_X11_runScript_k 1 (80000 + (nI m.val).toInt64) = 0 ∧ ((bhS (80000 + (nI m.val).toInt64) 0 - bhS (80000 + (nI m.val).toInt64) 0 / 100000 * 100000).toInt32) = nI (80000 + m.val) ∧ nI (80000 + m.val) / 10000 = 8 ∧ nI (80000 + m.val) - nI (80000 + m.val) / 10000 * 10000 = nI m.val ∧ (80001 : Int64) + (nI m.val).toInt64 = 80000 + (nI (m.val + 1)).toInt64 := by decide +kernel
theorem nb_9 : ∀ m : Fin 10, s_X11_runScript_k 1 (90000 + (nI m.val).toInt64) = 0 ∧ ((bhS (90000 + (nI m.val).toInt64) 0 - bhS (90000 + (nI m.val).toInt64) 0 / 100000 * 100000).toInt32) = nI (90000 + m.val) ∧ nI (90000 + m.val) / 10000 = 9 ∧ nI (90000 + m.val) - nI (90000 + m.val) / 10000 * 10000 = nI m.val := by decide +kernel
theorem nb_5 : ∀ m : Fin 4, s_X11_runScript_k 1 (50000 + (nI m.val).toInt64) = 0 ∧ ((bhS (50000 + (nI m.val).toInt64) 0 - bhS (50000 + (nI m.val).toInt64) 0 / 100000 * 100000).toInt32) = nI (50000 + m.val) ∧ nI (50000 + m.val) / 10000 = 5 ∧ nI (50000 + m.val) - nI (50000 + m.val) / 10000 * 10000 = nI m.val ∧ s_X11_isRule_r (nI m.val) = 1 := by decide +kernel
set_option maxRecDepth 20000 in
theorem nb_7 : ∀ m : Fin 1000, s_X11_runScript_k 1 (70000 + (nI m.val).toInt64) = 0 ∧ ((bhS (70000 + (nI m.val).toInt64) 0 - bhS (70000 + (nI m.val).toInt64) 0 / 100000 * 100000).toInt32) = nI (70000 + m.val) ∧ nI (70000 + m.val) / 10000 = 7 ∧ nI (70000 + m.val) - nI (70000 + m.val) / 10000 * 10000 = nI m.val ∧ s_X5_hasSign_r (nI m.val) = 1 ∧ s_X5_signed_r (nI m.val) = nI m.val ∧ (70001 : Int64) + (nI m.val).toInt64 = 70000 + (nI (m.val + 1)).toInt64 := by decide +kernel
set_option maxRecDepth 20000 in
theorem nb_7n : ∀ m : Fin 1000, s_X11_runScript_k 1 (71000 - (0 - nI m.val).toInt64) = 0 ∧ ((bhS (71000 - (0 - nI m.val).toInt64) 0 - bhS (71000 - (0 - nI m.val).toInt64) 0 / 100000 * 100000).toInt32) = nI (71000 + m.val) ∧ nI (71000 + m.val) / 10000 = 7 ∧ nI (71000 + m.val) - nI (71000 + m.val) / 10000 * 10000 = nI (1000 + m.val) ∧ s_X5_hasSign_r (nI (1000 + m.val)) = 1 ∧ s_X5_signed_r (nI (1000 + m.val)) = 0 - nI m.val := by decide +kernel
theorem good_le : ∃ m, m ≤ 20 ∧ (s_X7_goodCount_r z = nI m ∨ ¬ TS z) := by
  by_cases h : TS z
  · have := goodG_le (z 5) (sC (z 6) (z 7)) (tn ((z 4) 0)) ((z 3) 2) (tn ((z 4) 0))
    exact ⟨_, Nat.le_trans this (ts_n h), Or.inl rfl⟩
  · exact ⟨0, by omega, Or.inr h⟩
theorem fx_scripts {x : Int32} {T : List Int32} {Hs : List Zs} {s0 s1 : Option Zs} (h : GZ B z) (hx : 0 ≤ x.toInt) : FX_scripts x T z Hs s0 s1 := by
  obtain ⟨m, hm, hg⟩ := good_le (z := z)
  have hg : s_X7_goodCount_r z = nI m := hg.resolve_right (fun q => q h.ts)
  obtain ⟨n, hn, e9, -⟩ := h.2.2.2.2.1
  have ht := h.2.1.2.2.2.2.2.1
  have a17 : qAbout 17 z = nI m := hg
  have a18 : qAbout 18 z = nI n := e9
  have l0 : ∀ k : Nat, k ≤ 100 → (nI k ≤ 0 ↔ k = 0) := fun k hk => (nI_leI (b := 0) (by omega) (by decide)).trans (by omega)
  refine ⟨sc_no (g := 10000) (by decide +kernel) ((cmd_1 (by decide)).trans (by decide +kernel)), sc_yes (g := 10200) (by decide +kernel) ((cmd_1 (by decide)).trans (by decide +kernel)), sc_no (g := 10201) (by decide +kernel) ((cmd_1 (by decide)).trans (by decide +kernel)), sc_no (g := 20003) (by decide +kernel) ((cmd_2 (by decide)).trans (by decide +kernel)), sc_yes (g := 20002) (by decide +kernel) ((cmd_2 (by decide)).trans (by decide +kernel)), sc_no (g := 30501) (by decide +kernel) ((cmd_3 (by decide)).trans (by decide +kernel)), sc_yes (g := 31500) (by decide +kernel) ((cmd_3 (by decide)).trans (by decide +kernel)), sc_no (g := 32000) (by decide +kernel) ((cmd_3 (by decide)).trans (by decide +kernel)), sc_no (g := 44001) (by decide +kernel) ((cmd_4 (by decide)).trans (by decide +kernel)), sc_yes (g := 45999) (by decide +kernel) ((cmd_4 (by decide)).trans (by decide +kernel)), sc_no (g := 46021) (by decide +kernel) ((cmd_4 (by decide)).trans (by decide +kernel)), sc_no (g := 47100) (by decide +kernel) ((cmd_4 (by decide)).trans (by decide +kernel)), sc_yes (g := 49999) (by decide +kernel) ((cmd_4 (by decide)).trans (by decide +kernel)), sc_no (g := 50004) (by decide +kernel) ((cmd_5 (by decide)).trans (if_pos (by decide +kernel))), ?_, ?_, sc_no (g := 60001) (by decide +kernel) ((cmd_6 (by decide)).trans (if_neg (by decide))), ?_, ?_, ?_, ?_, sc_no (g := 0) (by decide +kernel) (cmd_0 (by decide)), sc_no (g := 72000) (by decide +kernel) ((cmd_7 (by decide)).trans (if_pos (by decide +kernel))), rfl, ?_, ?_, ?_, ?_⟩
  · -- a trial of rule x % 4
    have hxn := t_nI hx
    have hr : x - x / 4 * 4 = nI (tn x % 4) := by
      rw [hxn]
      have := t_tn hx
      have hb := t_b x
      rw [show tn (nI (tn x)) = tn x from nI_clamp (by omega)]
      exact pk_rem (d := 4) (by omega) (by decide) (by decide)
    rw [hr]
    obtain ⟨k1, k2, k3, k4, k5⟩ := nb_5 ⟨tn x % 4, Nat.mod_lt _ (by decide)⟩
    refine (sc_one k1 k2).trans ?_
    dsimp only at k3 k4 k5
    have hr5 : ¬ s_X11_isRule_r (nI (tn x % 4)) = 0 := by rw [k5]; decide
    dsimp only
    rw [cmd_5 k3, k4]
    unfold s_X7_beginTrial_r
    rw [if_neg hr5]
    unfold s_X7_canBeginTrial_r
    (try dsimp only)
    show (if (if (if 8 ≤ z 9 0 then 0 else if qAbout 17 z ≤ 0 then 0 else 1) = 0 then 0 else 1) = 0 then (0 : Int32) else -99999) = if qAbout 17 z ≤ 0 then 0 else if 8 ≤ z 9 0 then 0 else -99999
    by_cases c1 : 8 ≤ z 9 0
    · simp only [if_pos c1]
      by_cases c2 : qAbout 17 z ≤ 0
      · simp only [if_pos c2]; rfl
      · simp only [if_neg c2]; rfl
    · simp only [if_neg c1]
      by_cases c2 : qAbout 17 z ≤ 0
      · simp only [if_pos c2]; rfl
      · simp only [if_neg c2]; rfl
  · have k : s_X11_runScript_k 1 60000 = 0 ∧ ((bhS 60000 0 - bhS 60000 0 / 100000 * 100000).toInt32) = 60000 := by decide +kernel
    refine (sc_one k.1 k.2).trans ?_
    rw [cmd_6 (by decide), if_pos (show (60000 : Int32) - 60000 / 10000 * 10000 = 0 by decide)]
    unfold s_X7_endTrial_r
    show (if (if (if z 9 0 = 0 then 0 else 1) = 0 then 0 else 1) = 0 then (0 : Int32) else -99999) = if z 9 0 ≤ 0 then 0 else -99999
    rw [e9]
    by_cases c : n = 0
    · subst c; rfl
    · rw [if_neg (fun q => c ((l0 n (by omega)).mp q)), if_neg (fun q : nI n = 0 => c ((l0 n (by omega)).mp (by rw [q]; exact Int32.le_refl _)))]
      rfl
  · rw [a17]
    obtain ⟨k1, k2, k3, k4, -⟩ := nb_8 ⟨m, by omega⟩
    refine sc_yes ⟨k1, k2⟩ ?_
    dsimp only at k3 k4 ⊢
    rw [cmd_8 k3, k4, hg, if_neg (k_lt (D := 99) (d := 99) (j := m) (by omega) (by omega) (by omega) rfl), if_neg Int32.lt_irrefl]
  · rw [a17, (nb_8 ⟨m, by omega⟩).2.2.2.2]
    obtain ⟨k1, k2, k3, k4, -⟩ := nb_8 ⟨m + 1, by omega⟩
    refine sc_no ⟨k1, k2⟩ ?_
    dsimp only at k3 k4 ⊢
    rw [cmd_8 k3, k4, hg, if_neg (k_lt (D := 99) (d := 99) (j := m + 1) (by omega) (by omega) (by omega) rfl), if_pos ((nI_ltI (by omega) (by omega)).mpr (Nat.lt_succ_self m))]
  · rw [a18]
    obtain ⟨k1, k2, k3, k4⟩ := nb_9 ⟨n, by omega⟩
    refine sc_yes ⟨k1, k2⟩ ?_
    dsimp only at k3 k4 ⊢
    rw [cmd_9 k3, k4, e9, if_neg (k_lt (D := 9) (d := 9) (j := n) (by omega) (by omega) (by omega) rfl), if_pos rfl]
  · refine sc_no (g := 90009) (by decide +kernel) ((cmd_9 (by decide)).trans ?_)
    rw [if_neg (show ¬ (9 : Int32) < 90009 - 90009 / 10000 * 10000 by decide), e9]
    exact if_neg (fun q : nI n = nI 9 => by
      have := congrArg Int32.toInt q
      rw [t_n (by omega), t_n (by omega)] at this
      omega)
  · intro c
    refine sc_no (g := 70000) (by decide +kernel) ((cmd_7 (by decide)).trans ?_)
    rw [if_neg (show ¬ s_X5_hasSign_r (70000 - 70000 / 10000 * 10000) = 0 by decide +kernel)]
    refine if_pos ?_
    rw [ab_12] at c
    have hs : s_X5_signed_r (70000 - 70000 / 10000 * 10000) = 0 := by decide +kernel
    rw [hs]
    have := mt t_lt.mpr c
    refine t_lt.mpr ?_
    have e1 : (-1 : Int32).toInt = -1 := rfl
    have e0 : (0 : Int32).toInt = 0 := rfl
    omega
  · intro c1 c2
    rw [ab_12] at c1 c2 ⊢
    have d1 := mt t_lt.mpr c1
    have d2 := mt t_lt.mpr c2
    have e1 : (-999 : Int32).toInt = -999 := rfl
    have e0 : (0 : Int32).toInt = 0 := rfl
    obtain ⟨k, hk⟩ : ∃ k : Nat, (z 1 5).toInt = -(k : Int) := ⟨(-(z 1 5).toInt).toNat, by omega⟩
    have ez : z 1 5 = 0 - nI k := by
      rw [t_eq, t_sub (by rw [e0, t_n (by omega)]; omega) (by rw [e0, t_n (by omega)]; omega), e0, t_n (by omega)]
      omega
    obtain ⟨k1, k2, k3, k4, k5, k6⟩ := nb_7n ⟨k, by omega⟩
    rw [ez]
    refine sc_yes ⟨k1, k2⟩ ?_
    dsimp only at k3 k4 k5 k6 ⊢
    rw [cmd_7 k3, k4, k5, k6, if_neg (show ¬ (1 : Int32) = 0 by decide), ez]
    exact if_neg Int32.lt_irrefl
  · intro c1 c2
    rw [ab_12] at c1 c2 ⊢
    have d1 := mt t_lt.mpr c1
    have d2 := mt t_lt.mpr c2
    have e1 : (998 : Int32).toInt = 998 := rfl
    have e0 : (0 : Int32).toInt = 0 := rfl
    have ez := t_nI (a := z 1 5) (by omega)
    have et := t_tn (a := z 1 5) (by omega)
    obtain ⟨-, -, -, -, -, -, k7⟩ := nb_7 ⟨tn (z 1 5), by omega⟩
    obtain ⟨k1, k2, k3, k4, k5, k6, -⟩ := nb_7 ⟨tn (z 1 5) + 1, by omega⟩
    have key : qScript 1 (70001 + (nI (tn (z 1 5))).toInt64) z = 0 := by
      dsimp only at k7 k1 k2 k3 k4 k5 k6
      rw [k7]
      refine sc_no ⟨k1, k2⟩ ?_
      rw [cmd_7 k3, k4, k5, k6, if_neg (show ¬ (1 : Int32) = 0 by decide)]
      refine if_pos (t_lt.mpr ?_)
      rw [t_n (by omega)]
      omega
    rw [← ez] at key
    exact key
  · intro c1 c2
    rw [ab_12] at c1 c2 ⊢
    have d1 := mt t_lt.mpr c1
    have d2 := mt t_lt.mpr c2
    have e1 : (999 : Int32).toInt = 999 := rfl
    have e0 : (0 : Int32).toInt = 0 := rfl
    have ez := t_nI (a := z 1 5) (by omega)
    have et := t_tn (a := z 1 5) (by omega)
    obtain ⟨k1, k2, k3, k4, k5, k6, -⟩ := nb_7 ⟨tn (z 1 5), by omega⟩
    have key : qScript 1 (70000 + (nI (tn (z 1 5))).toInt64) z = -99999 := by
      dsimp only at k1 k2 k3 k4 k5 k6
      refine sc_yes ⟨k1, k2⟩ ?_
      rw [cmd_7 k3, k4, k5, k6, if_neg (show ¬ (1 : Int32) = 0 by decide)]
      refine if_neg (fun q => ?_)
      have := t_lt.mp q
      rw [t_n (by omega)] at this
      omega
    rw [← ez] at key
    exact key
end SCRI

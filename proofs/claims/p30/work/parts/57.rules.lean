/-! ===== the rules' proposals; a rule that is followed ===== -/
section RUL
variable {z : Zs} {B : Int} {a b : Int32} {f g : Nat → Int32}
/-- how many swings are good, the middles of the good ones, and what the rules begin with -/
def gN (z : Zs) : Nat := goodG (z 5) (sC (z 6) (z 7)) (tn (z 4 0)) (z 3 2) (tn (z 4 0))
def mZ (b : Int32) (z : Zs) : Int32 := meanG (z 5) (sC (z 6) (z 7)) (tn (z 4 0)) (z 3 2) (vC b (z 5) (z 6) (z 7))
def qZ (z : Zs) : Int32 := (127 * z 1 4) / mZ 1 z
theorem ab_17g : qAbout 17 z = nI (gN z) := rfl
theorem gN_le (h : GZ B z) : gN z ≤ 20 := Nat.le_trans (goodG_le _ _ _ _ _) (ts_n h.ts)
theorem fine_0 (h : GZ B z) : qAbout 17 z = 0 ↔ gN z = 0 := by
  rw [ab_17g]
  exact nI_z (by have := gN_le h; omega)
theorem fine_le (h : GZ B z) : qAbout 17 z ≤ 0 ↔ gN z = 0 := by
  have := gN_le h
  rw [ab_17g]
  exact (nI_leI (a := gN z) (b := 0) (by omega) (by decide)).trans (by omega)
theorem sum_bd {p s val : Nat → Int32} {n : Nat} {tol : Int32} {M : Int} (hM : 0 ≤ M) (hM2 : M ≤ 100000) (hv : ∀ j, j < n → 0 ≤ (val j).toInt ∧ (val j).toInt ≤ M) (hn : n ≤ 20) : ∀ k : Nat, k ≤ n → 0 ≤ (sumG p s n tol val k).toInt ∧ (sumG p s n tol val k).toInt ≤ (k : Int) * M
  | 0, _ => ⟨(show (0 : Int) ≤ (0 : Int32).toInt by decide), by
    rw [show (((0 : Nat) : Int)) * M = 0 by rw [show (((0 : Nat) : Int)) = 0 from rfl, Int.zero_mul]]
    exact (show (0 : Int32).toInt ≤ 0 by decide)⟩
  | k + 1, hk => by
    obtain ⟨h1, h2⟩ := sum_bd (p := p) (s := s) (tol := tol) hM hM2 hv hn k (by omega)
    obtain ⟨v1, v2⟩ := hv k (by omega)
    have e : ((k + 1 : Nat) : Int) * M = (k : Int) * M + M := by rw [show ((k + 1 : Nat) : Int) = (k : Int) + 1 by omega, Int.add_mul, Int.one_mul]
    have hkM : (k : Int) * M ≤ 20 * 100000 := Int.mul_le_mul (by omega) hM2 hM (by decide)
    rw [e]
    simp only [sumG]
    by_cases c : oddG p s n tol k = 0
    · rw [if_pos c, t_add (by omega) (by omega)]; omega
    · rw [if_neg c]; omega
theorem mean_bd {p s val : Nat → Int32} {n : Nat} {tol : Int32} {M : Int} (hM : 0 ≤ M) (hM2 : M ≤ 100000) (hv : ∀ j, j < n → 0 ≤ (val j).toInt ∧ (val j).toInt ≤ M) (hn : n ≤ 20) (hg : ¬ goodG p s n tol n = 0) : 1 ≤ (meanG p s n tol val).toInt ∧ (meanG p s n tol val).toInt ≤ 20 * M + 1 := by
  obtain ⟨h1, h2⟩ := sum_bd (p := p) (s := s) (tol := tol) hM hM2 hv hn n (Nat.le_refl _)
  have hgl := goodG_le p s n tol n
  have hnM : (n : Int) * M ≤ 20 * M := Int.mul_le_mul_of_nonneg_right (by omega) hM
  have e1 : (1 : Int32).toInt = 1 := rfl
  unfold meanG
  generalize goodG p s n tol n = G at hg hgl ⊢
  have eg : (nI G).toInt = (G : Int) := t_n (by omega)
  have ed : (sumG p s n tol val n / nI G).toInt = (sumG p s n tol val n).toInt / (G : Int) := by rw [t_divp h1 (by rw [eg]; omega), eg]
  have hd : (sumG p s n tol val n).toInt / (G : Int) ≤ (sumG p s n tol val n).toInt := Int.ediv_le_self _ h1
  by_cases c : 1 ≤ sumG p s n tol val n / nI G
  · rw [if_pos c, ed]
    have := t_le.mp c
    rw [ed, e1] at this
    exact ⟨this, by omega⟩
  · rw [if_neg c, e1]
    omega
theorem mZ_bd (h : GZ B z) (hB : B ≤ 10000) (hg : ¬ gN z = 0) : (1 ≤ (mZ 0 z).toInt ∧ (mZ 0 z).toInt ≤ 200001) ∧ (1 ≤ (mZ 1 z).toInt ∧ (mZ 1 z).toInt ≤ 400001) := by
  obtain ⟨h0, -, -, ⟨-, -, -, n, hn, e, hs, -⟩, -⟩ := h
  have en : tn (z 4 0) = n := by rw [e]; exact nI_clamp (by omega)
  unfold gN at hg
  unfold mZ
  rw [en] at hg ⊢
  have v0 : ∀ j, j < n → 0 ≤ (vC 0 (z 5) (z 6) (z 7) j).toInt ∧ (vC 0 (z 5) (z 6) (z 7) j).toInt ≤ 10000 := fun j hj => by
    rw [show vC 0 (z 5) (z 6) (z 7) = z 5 from if_pos rfl]
    obtain ⟨q, -⟩ := hs j hj
    omega
  have v1 : ∀ j, j < n → 0 ≤ (vC 1 (z 5) (z 6) (z 7) j).toInt ∧ (vC 1 (z 5) (z 6) (z 7) j).toInt ≤ 19998 := fun j hj => by
    rw [show vC 1 (z 5) (z 6) (z 7) = (fun j => z 6 j - z 7 j) from if_neg (by decide)]
    obtain ⟨-, q, -⟩ := hs j hj
    show 0 ≤ (z 6 j - z 7 j).toInt ∧ (z 6 j - z 7 j).toInt ≤ 19998
    rw [t_sub (by omega) (by omega)]
    omega
  have m0 := mean_bd (p := z 5) (s := sC (z 6) (z 7)) (tol := z 3 2) (M := 10000) (by decide) (by decide) v0 hn hg
  have m1 := mean_bd (p := z 5) (s := sC (z 6) (z 7)) (tol := z 3 2) (M := 19998) (by decide) (by decide) v1 hn hg
  omega
theorem qZ_bd (h : GZ B z) (hB : B ≤ 10000) (hg : ¬ gN z = 0) : 0 ≤ (qZ z).toInt ∧ (qZ z).toInt ≤ 12573 := by
  obtain ⟨-, m1, m2⟩ := mZ_bd h hB hg
  have h4 := h.2.1.2.2.2.2.1
  unfold rg at h4
  have e127 : (127 : Int32).toInt = 127 := rfl
  have em : (127 * z 1 4).toInt = 127 * (z 1 4).toInt := by rw [t_mul (by rw [e127]; omega) (by rw [e127]; omega), e127]
  unfold qZ
  rw [t_divp (by rw [em]; omega) (by omega), em]
  have d1 := Int.ediv_nonneg (a := 127 * (z 1 4).toInt) (b := (mZ 1 z).toInt) (by omega) (by omega)
  have d2 := Int.ediv_le_self (a := 127 * (z 1 4).toInt) (mZ 1 z).toInt (by omega)
  exact ⟨d1, by omega⟩
theorem am_t : (s_X4_atMost_r a).toInt = if a.toInt ≤ 9999 then a.toInt else 9999 := by
  unfold s_X4_atMost_r
  (try dsimp only)
  have e9 : (9999 : Int32).toInt = 9999 := rfl
  by_cases c : a ≤ 9999
  · rw [if_pos c, if_pos (by have := t_le.mp c; omega)]
  · rw [if_neg c, if_neg (by have := mt t_le.mpr c; omega), e9]
theorem am_bd (h : 0 ≤ a.toInt) : 0 ≤ (s_X4_atMost_r a).toInt ∧ (s_X4_atMost_r a).toInt ≤ 9999 := by
  rw [am_t]
  split <;> omega
theorem pp_t {q : Int32} (h : 0 ≤ q.toInt ∧ q.toInt ≤ 12573) : (q / 2).toInt = q.toInt / 2 ∧ ((q * 45) / 100).toInt = q.toInt * 45 / 100 ∧ ((q * 6) / 10).toInt = q.toInt * 6 / 10 ∧ ((q * 2) / 10).toInt = q.toInt * 2 / 10 := by
  have e2 : (2 : Int32).toInt = 2 := rfl
  have e6 : (6 : Int32).toInt = 6 := rfl
  have e10 : (10 : Int32).toInt = 10 := rfl
  have e45 : (45 : Int32).toInt = 45 := rfl
  have e100 : (100 : Int32).toInt = 100 := rfl
  have m2 : (q * 2).toInt = q.toInt * 2 := by rw [t_mul (by rw [e2]; omega) (by rw [e2]; omega), e2]
  have m6 : (q * 6).toInt = q.toInt * 6 := by rw [t_mul (by rw [e6]; omega) (by rw [e6]; omega), e6]
  have m45 : (q * 45).toInt = q.toInt * 45 := by rw [t_mul (by rw [e45]; omega) (by rw [e45]; omega), e45]
  refine ⟨?_, ?_, ?_, ?_⟩
  · rw [t_divp h.1 (by decide), e2]
  · rw [t_divp (by rw [m45]; omega) (by decide), m45, e100]
  · rw [t_divp (by rw [m6]; omega) (by decide), m6, e10]
  · rw [t_divp (by rw [m2]; omega) (by decide), m2, e10]
theorem prop_bd {q : Int32} (h : 0 ≤ q.toInt ∧ q.toInt ≤ 12573) : 0 ≤ (s_X4_proportional_r a q).toInt ∧ (s_X4_proportional_r a q).toInt ≤ 9999 := by
  obtain ⟨e1, e2, e3, e4⟩ := pp_t h
  unfold s_X4_proportional_r
  exact ite_P (P := fun w : Int32 => 0 ≤ w.toInt ∧ w.toInt ≤ 9999) (fun _ => am_bd (by rw [e1]; omega)) (fun _ => ite_P (P := fun w : Int32 => 0 ≤ w.toInt ∧ w.toInt ≤ 9999) (fun _ => am_bd (by rw [e2]; omega)) (fun _ => ite_P (P := fun w : Int32 => 0 ≤ w.toInt ∧ w.toInt ≤ 9999) (fun _ => am_bd (by rw [e3]; omega)) (fun _ => am_bd (by rw [e4]; omega))))
theorem prop_mono {q : Int32} (h : 0 ≤ q.toInt ∧ q.toInt ≤ 12573) : ¬ s_X4_proportional_r 1 q < s_X4_proportional_r 3 q ∧ ¬ s_X4_proportional_r 0 q < s_X4_proportional_r 1 q ∧ ¬ s_X4_proportional_r 2 q < s_X4_proportional_r 0 q := by
  obtain ⟨e1, e2, e3, e4⟩ := pp_t h
  have p0 : (s_X4_proportional_r 0 q) = s_X4_atMost_r (q / 2) := if_pos rfl
  have p1 : (s_X4_proportional_r 1 q) = s_X4_atMost_r ((q * 45) / 100) := (if_neg (by decide)).trans (if_pos rfl)
  have p2 : (s_X4_proportional_r 2 q) = s_X4_atMost_r ((q * 6) / 10) := (if_neg (by decide)).trans ((if_neg (by decide)).trans (if_pos rfl))
  have p3 : (s_X4_proportional_r 3 q) = s_X4_atMost_r ((q * 2) / 10) := (if_neg (by decide)).trans ((if_neg (by decide)).trans (if_neg (by decide)))
  rw [p0, p1, p2, p3]
  refine ⟨fun k => ?_, fun k => ?_, fun k => ?_⟩
  · have k := t_lt.mp k
    rw [am_t, am_t, e2, e4] at k
    split at k <;> split at k <;> omega
  · have k := t_lt.mp k
    rw [am_t, am_t, e1, e2] at k
    split at k <;> split at k <;> omega
  · have k := t_lt.mp k
    rw [am_t, am_t, e3, e1] at k
    split at k <;> split at k <;> omega
theorem int_bd {p m : Int32} (hp : 0 ≤ p.toInt ∧ p.toInt ≤ 9999) (hm : 1 ≤ m.toInt ∧ m.toInt ≤ 200001) : 0 ≤ (s_X4_integral_r a p m).toInt ∧ (s_X4_integral_r a p m).toInt ≤ 9999 := by
  have e2 : (2 : Int32).toInt = 2 := rfl
  have e10 : (10 : Int32).toInt = 10 := rfl
  have e12 : (12 : Int32).toInt = 12 := rfl
  have m2 : (p * 2).toInt = p.toInt * 2 := by rw [t_mul (by rw [e2]; omega) (by rw [e2]; omega), e2]
  have m12 : (p * 12).toInt = p.toInt * 12 := by rw [t_mul (by rw [e12]; omega) (by rw [e12]; omega), e12]
  have mm : (10 * m).toInt = 10 * m.toInt := by rw [t_mul (by rw [e10]; omega) (by rw [e10]; omega), e10]
  have d1 : 0 ≤ ((p * 12) / (10 * m)).toInt := by
    rw [t_divp (by rw [m12]; omega) (by rw [mm]; omega), m12, mm]
    exact Int.ediv_nonneg (by omega) (by omega)
  have d2 : 0 ≤ ((p * 2) / m).toInt := by
    rw [t_divp (by rw [m2]; omega) (by omega), m2]
    exact Int.ediv_nonneg (by omega) (by omega)
  unfold s_X4_integral_r
  (try dsimp only)
  have z0 : 0 ≤ (0 : Int32).toInt ∧ (0 : Int32).toInt ≤ 9999 := by decide
  exact ite_P (P := fun w : Int32 => 0 ≤ w.toInt ∧ w.toInt ≤ 9999) (fun _ => z0) (fun _ => ite_P (P := fun w : Int32 => 0 ≤ w.toInt ∧ w.toInt ≤ 9999) (fun _ => ite_P (P := fun w : Int32 => 0 ≤ w.toInt ∧ w.toInt ≤ 9999) (fun _ => am_bd d1) (fun _ => am_bd d2)) (fun _ => z0))
theorem der_bd {p m : Int32} (hp : 0 ≤ p.toInt ∧ p.toInt ≤ 9999) (hm : 1 ≤ m.toInt ∧ m.toInt ≤ 200001) : 0 ≤ (s_X4_derivative_r a p m).toInt ∧ (s_X4_derivative_r a p m).toInt ≤ 9999 := by
  have e3 : (3 : Int32).toInt = 3 := rfl
  have e8 : (8 : Int32).toInt = 8 := rfl
  have k1 : p.toInt * m.toInt ≤ 9999 * 200001 := Int.mul_le_mul hp.2 hm.2 (by omega) (by decide)
  have k0 : 0 ≤ p.toInt * m.toInt := Int.mul_nonneg hp.1 (by omega)
  have mm : (p * m).toInt = p.toInt * m.toInt := t_mul (by omega) (by omega)
  have d1 : 0 ≤ ((p * m) / 8).toInt := by
    rw [t_divp (by rw [mm]; exact k0) (by decide), mm, e8]
    omega
  have d2 : 0 ≤ ((p * m) / 3).toInt := by
    rw [t_divp (by rw [mm]; exact k0) (by decide), mm, e3]
    omega
  unfold s_X4_derivative_r
  exact ite_P (P := fun w : Int32 => 0 ≤ w.toInt ∧ w.toInt ≤ 9999) (fun _ => am_bd d1) (fun _ => ite_P (P := fun w : Int32 => 0 ≤ w.toInt ∧ w.toInt ≤ 9999) (fun _ => am_bd d2) (fun _ => by decide))
theorem pro_v (hg : ¬ gN z = 0) : s_X7_proposed_r a b z = if b = 0 then s_X4_proportional_r a (qZ z) else if b = 1 then s_X4_integral_r a (s_X4_proportional_r a (qZ z)) (mZ 0 z) else s_X4_derivative_r a (s_X4_proportional_r a (qZ z)) (mZ 0 z) := by
  have hg' : ¬ goodG (z 5) (sC (z 6) (z 7)) (tn (z 4 0)) (z 3 2) (tn (z 4 0)) = 0 := hg
  unfold s_X7_proposed_r
  simp only [if_neg hg']
  rw [if_neg (Int32.not_lt.mpr (meanG_pos _ _ _ _ _)), if_pos (meanG_pos _ _ _ _ _)]
  rfl
theorem pro_no (hg : gN z = 0) : s_X7_proposed_r a b z = -99999 := by
  have hg' : goodG (z 5) (sC (z 6) (z 7)) (tn (z 4 0)) (z 3 2) (tn (z 4 0)) = 0 := hg
  unfold s_X7_proposed_r
  simp only [if_pos hg']
  exact if_pos (by decide)
theorem pro_bd (h : GZ B z) (hB : B ≤ 10000) (hg : ¬ gN z = 0) : 0 ≤ (s_X7_proposed_r a b z).toInt ∧ (s_X7_proposed_r a b z).toInt ≤ 9999 := by
  obtain ⟨m0, -⟩ := mZ_bd h hB hg
  have hp := prop_bd (a := a) (qZ_bd h hB hg)
  rw [pro_v hg]
  exact ite_P (P := fun w : Int32 => 0 ≤ w.toInt ∧ w.toInt ≤ 9999) (fun _ => hp) (fun _ => ite_P (P := fun w : Int32 => 0 ≤ w.toInt ∧ w.toInt ≤ 9999) (fun _ => int_bd hp m0) (fun _ => der_bd hp m0))
theorem rule_ok {r : Nat} (h : r < 4) : s_X11_isRule_r (nI r) = 1 := (by decide : ∀ r : Fin 4, s_X11_isRule_r (nI r.val) = 1) ⟨r, h⟩
theorem pro_k {r : Nat} (h : r < 4) {b : Int32} (h0 : ¬ b < 0) (h2 : b ≤ 2) : s_X11_proposal_k (nI r) b = 0 := by
  unfold s_X11_proposal_k
  rw [rule_ok h, if_neg (by decide), if_neg h0, if_pos h2]
theorem qp_v {r : Nat} (h : r < 4) {b : Int32} (h0 : ¬ b < 0) (h2 : b ≤ 2) : qProp (nI r) b z = s_X7_proposed_r (nI r) b z := an_k0 (pro_k h h0 h2)
-- a rule is followed
theorem zU_ne {k i : Nat} (h : i ≠ k) : zU z k f i = z i := if_neg h
def foZ (a : Int32) (z : Zs) : Zs := zU z 3 (upd (upd (upd (z 3) 3 (s_X7_proposed_r a 0 z)) 4 (s_X7_proposed_r a 1 z)) 5 (s_X7_proposed_r a 2 z))
theorem fo_eq : s_X7_follow_z a z = s_X7_changeMode_z 2 (foZ a z) := zs_ext (c13 rfl rfl rfl rfl rfl rfl rfl rfl rfl rfl rfl rfl rfl) (fun i => (zU_ne (z := z) (f := upd (upd (upd (z 3) 3 (s_X7_proposed_r a 0 z)) 4 (s_X7_proposed_r a 1 z)) 5 (s_X7_proposed_r a 2 z)) (i := i + 13) (k := 3) (by omega)).symm)
theorem foZ_GZ (h : GZ B z) (hB : B ≤ 10000) (hg : ¬ gN z = 0) : GZ B (foZ a z) := by
  have p := fun b => pro_bd (a := a) (b := b) h hB hg
  obtain ⟨h0, hP, ⟨c0, -, c6⟩, hW, hT, hA⟩ := h
  exact ⟨h0, hP, ⟨c0, ⟨p 0, p 1, p 2⟩, c6⟩, hW, hT, hA⟩
theorem fo_GZ (h : GZ B z) (hB : B ≤ 10000) (hg : ¬ gN z = 0) : GZ B (s_X7_follow_z a z) := by
  rw [fo_eq]
  exact cm_GZ (foZ_GZ h hB hg) (Or.inr (Or.inr rfl))
theorem cm_3 {j : Nat} (ha : md3 a) (h6 : j ≠ 6) (h7 : j ≠ 7) (h8 : j ≠ 8) (h10 : j ≠ 10) : s_X7_changeMode_z a z 3 j = z 3 j := by
  show (if s_X11_isMode_r a = 0 then z 3 else (if a = z 3 6 then z 3 else s_X1_enter_w0 a (z 3))) j = z 3 j
  rw [if_neg (md_isMode ha)]
  exact ite_P (P := fun w : Nat → Int32 => w j = z 3 j) (fun _ => rfl) (fun _ => en_k h6 h7 h8 h10)
theorem cm_6 (ha : md3 a) : s_X7_changeMode_z a z 3 6 = a := by
  show (if s_X11_isMode_r a = 0 then z 3 else (if a = z 3 6 then z 3 else s_X1_enter_w0 a (z 3))) 6 = a
  rw [if_neg (md_isMode ha)]
  exact ite_P (P := fun w : Nat → Int32 => w 6 = a) (fun q => q.symm) (fun _ => en_6)
theorem cm_7 (ha : md3 a) (h6 : ¬ z 3 6 = 1) (h7 : z 3 7 = 0) : s_X7_changeMode_z a z 3 7 = if a = 1 then 1 else 0 := by
  show (if s_X11_isMode_r a = 0 then z 3 else (if a = z 3 6 then z 3 else s_X1_enter_w0 a (z 3))) 7 = _
  rw [if_neg (md_isMode ha)]
  exact ite_P (P := fun w : Nat → Int32 => w 7 = if a = 1 then 1 else 0) (fun q => by rw [h7, if_neg (by rw [q]; exact h6)]) (fun _ => en_7)
theorem fo_3 (j : Nat) (h6 : j ≠ 6) (h7 : j ≠ 7) (h8 : j ≠ 8) (h10 : j ≠ 10) : s_X7_follow_z a z 3 j = upd (upd (upd (z 3) 3 (s_X7_proposed_r a 0 z)) 4 (s_X7_proposed_r a 1 z)) 5 (s_X7_proposed_r a 2 z) j := by
  rw [fo_eq, cm_3 (Or.inr (Or.inr rfl)) h6 h7 h8 h10]
  rfl
theorem fo_6 : s_X7_follow_z a z 3 6 = 2 := by
  rw [fo_eq]
  exact cm_6 (Or.inr (Or.inr rfl))
-- the trials beside: nothing else looks at them
def uT (f g : Nat → Int32) (z : Zs) : Zs := zU (zU z 9 f) 10 g
theorem uT_hi (i : Nat) : uT f g z (i + 13) = z (i + 13) := (zU_ne (by omega)).trans (zU_ne (by omega))
theorem uT_GZ (h : GZ B z) (ht : GT f g) : GZ B (uT f g z) := ⟨h.1, h.2.1, h.2.2.1, h.2.2.2.1, ht, h.2.2.2.2.2⟩
theorem pass_U : s_X7_passOne_z (uT f g z) = uT f g (s_X7_passOne_z z) := zs_ext (c13 rfl rfl rfl rfl rfl rfl rfl rfl rfl rfl rfl rfl rfl) (fun i => (uT_hi (z := z) i).trans (uT_hi (z := s_X7_passOne_z z) i).symm)
theorem it_U : ∀ k : Nat, itF s_X7_passOne_z k (uT f g z) = uT f g (itF s_X7_passOne_z k z)
  | 0 => rfl
  | k + 1 => by
    show s_X7_passOne_z (itF s_X7_passOne_z k (uT f g z)) = uT f g (s_X7_passOne_z (itF s_X7_passOne_z k z))
    rw [it_U k, pass_U]
theorem fc_U : ∀ k : Nat, fcF (uT f g z) k = fcF z k
  | 0 => rfl
  | k + 1 => by
    simp only [fcF]
    rw [it_U, fc_U k]
    rfl
theorem fore_U : s_X11_forecast_r a b (uT f g z) = s_X11_forecast_r a b z := by
  unfold s_X11_forecast_r
  rw [it_U, fc_U]
  rfl
theorem fo_U : s_X7_follow_z a (uT f g z) = uT f g (s_X7_follow_z a z) := zs_ext (c13 rfl rfl rfl rfl rfl rfl rfl rfl rfl rfl rfl rfl rfl) (fun i => (uT_hi (z := z) i).trans (uT_hi (z := s_X7_follow_z a z) i).symm)
theorem rule_U (hr : ¬ s_X11_isRule_r a = 0) (hc : ¬ s_X7_canBeginTrial_r z = 0) : s_X11_tryRule_z a z = uT (s_X10_open_w0 (z 9)) (s_X10_open_w1 (z 9) (z 10) (z 3)) (s_X7_follow_z a z) := by
  have h9 : s_X7_beginTrial_z a z = s_X7_follow_z a (uT (s_X10_open_w0 (z 9)) (s_X10_open_w1 (z 9) (z 10) (z 3)) z) := by
    refine zs_ext (c13 ?_ ?_ rfl ?_ ?_ ?_ ?_ ?_ ?_ ?_ ?_ rfl rfl) (fun i => (uT_hi (z := z) i).symm) <;> exact (if_neg hr).trans (if_neg hc)
  rw [rule_eq, h9, fo_U]
theorem op_v {n : Nat} (e : z 9 0 = nI n) (hn : n < 8) : s_X10_open_w0 (z 9) = upd (z 9) 0 (nI (n + 1)) ∧ s_X10_open_w1 (z 9) (z 10) (z 3) = upd (upd (upd (upd (z 10) (4 * n) (z 3 3)) (4 * n + 1) (z 3 4)) (4 * n + 2) (z 3 5)) (4 * n + 3) (z 3 6) := by
  have n0 : ¬ z 9 0 < 0 := by rw [e]; exact fun q => absurd ((nI_ltI (a := n) (b := 0) (by omega) (by decide)).mp q) (Nat.not_lt_zero _)
  have n8 : ¬ 8 ≤ z 9 0 := by rw [e]; exact fun q => absurd ((nI_leI (a := 8) (b := n) (by decide) (by omega)).mp q) (by omega)
  have et : tn (z 9 0) = n := by rw [e]; exact nI_clamp (by omega)
  have ea : z 9 0 + 1 = nI (n + 1) := by rw [e]; exact nI_add n 1
  constructor
  · unfold s_X10_open_w0
    (try dsimp only)
    rw [if_neg n0, if_neg n8, ea]
  · unfold s_X10_open_w1
    (try dsimp only)
    rw [if_neg n0, if_neg n8, et]
theorem op_GT (h : GZ B z) {n : Nat} (e : z 9 0 = nI n) (hn : n < 8) : GT (s_X10_open_w0 (z 9)) (s_X10_open_w1 (z 9) (z 10) (z 3)) := by
  obtain ⟨e0, e1⟩ := op_v e hn
  obtain ⟨-, -, ⟨-, ⟨c3, c4, c5⟩, c6, -⟩, -, ⟨n2, hn2, e2, ht⟩, -⟩ := h
  have en : n2 = n := by
    have := congrArg Int32.toInt (e2.symm.trans e)
    rw [t_n (by omega), t_n (by omega)] at this
    omega
  subst en
  rw [e0, e1]
  refine ⟨n2 + 1, by omega, rfl, fun t ht9 => ?_⟩
  by_cases c : t = n2
  · subst c
    rw [upd_ne (j := 4 * t) (by omega), upd_ne (j := 4 * t) (by omega), upd_ne (j := 4 * t) (by omega), upd_at, upd_ne (j := 4 * t + 1) (by omega), upd_ne (j := 4 * t + 1) (by omega), upd_at, upd_ne (j := 4 * t + 2) (by omega), upd_at, upd_at]
    exact ⟨c3, c4, c5, c6⟩
  · have q := ht t (by omega)
    rw [upd_ne (j := 4 * t) (by omega), upd_ne (j := 4 * t) (by omega), upd_ne (j := 4 * t) (by omega), upd_ne (j := 4 * t) (by omega), upd_ne (j := 4 * t + 1) (by omega), upd_ne (j := 4 * t + 1) (by omega), upd_ne (j := 4 * t + 1) (by omega), upd_ne (j := 4 * t + 1) (by omega), upd_ne (j := 4 * t + 2) (by omega), upd_ne (j := 4 * t + 2) (by omega), upd_ne (j := 4 * t + 2) (by omega), upd_ne (j := 4 * t + 2) (by omega), upd_ne (j := 4 * t + 3) (by omega), upd_ne (j := 4 * t + 3) (by omega), upd_ne (j := 4 * t + 3) (by omega), upd_ne (j := 4 * t + 3) (by omega)]
    exact q
theorem rule_h (h : GZ B z) (hk : s_X11_tryRule_k a z = 0) : ¬ s_X11_isRule_r a = 0 ∧ ¬ s_X7_canBeginTrial_r z = 0 ∧ ¬ gN z = 0 ∧ ∃ n, n < 8 ∧ z 9 0 = nI n := by
  have hr : ¬ s_X11_isRule_r a = 0 := fun q => by
    unfold s_X11_tryRule_k at hk
    rw [if_pos q] at hk
    exact absurd hk (by decide)
  have hc : ¬ s_X7_canBeginTrial_r z = 0 := fun q => by
    unfold s_X11_tryRule_k at hk
    rw [if_neg hr, if_pos q] at hk
    exact absurd hk (by decide)
  refine ⟨hr, hc, fun q => ?_, ?_⟩
  · exact hc (cb_no (fun _ => (fine_le h).mpr q))
  · obtain ⟨n, hn, e, -⟩ := h.2.2.2.2.1
    refine ⟨n, Decidable.byContradiction (fun q => hc (cb_no (fun k => ?_))), e⟩
    rw [e] at k
    exact absurd ((nI_ltI (a := n) (b := 8) (by omega) (by decide)).mp k) q
theorem rule_GZ (h : GZ B z) (hB : B ≤ 10000) (hk : s_X11_tryRule_k a z = 0) : GZ B (s_X11_tryRule_z a z) := by
  obtain ⟨hr, hc, hg, n, hn, e⟩ := rule_h h hk
  rw [rule_U hr hc]
  exact uT_GZ (fo_GZ h hB hg) (op_GT h e hn)
end RUL
/-! ===== how far the temperature can go ===== -/
section TMP
variable {z : Zs} {B D : Int} {a b : Int32}
def TB (D : Int) (z : Zs) : Prop := -D ≤ (z 1 5).toInt ∧ (z 1 5).toInt ≤ D
theorem tb_pass (h : GZ B z) (hD : 2079 ≤ D) (ht : TB D z) : TB D (s_X7_passOne_z z) := by
  have ho := po_rg h
  obtain ⟨-, r1, r2, -⟩ := rs_rg h.2.1 ho
  have e := tm_t h.2.1 ho
  obtain ⟨b1, b2⟩ := ch_bd h.2.1 ho
  unfold TB at ht ⊢
  rw [ps_1, e]
  rcases Int.le_total (z 1 5).toInt (rsR (poR z) (z 1) (z 2)).toInt with q | q
  · have := b1 q
    split
    · omega
    · split <;> omega
  · have := b2 q
    split
    · omega
    · split <;> omega
theorem tb_it (h : GZ B z) (hB : B < 900000) (hD : 2079 ≤ D) (ht : TB D z) : ∀ k : Nat, k ≤ 1000 → TB D (itF s_X7_passOne_z k z)
  | 0, _ => ht
  | k + 1, hk => tb_pass (it_GZ h hB k (by omega)) hD (tb_it h hB hD ht k (by omega))
/-- the state, with the clock at most B, the temperature within 2100 + B -/
def GB (B : Int) (z : Zs) : Prop := GZ B z ∧ TB (2100 + B) z
theorem GB.mono {B' : Int} (h : GB B z) (hb : B ≤ B') : GB B' z := ⟨h.1.mono hb, by
  have := h.2
  unfold TB at this ⊢
  omega⟩
theorem tick_GB (h : GB B z) (h0 : 0 ≤ B) (hB : B < 800000) {k : Nat} (hk1 : 1 ≤ k) (hk : k ≤ 200) : GB (B + 200) (s_X11_tick_z (nI k) z) := by
  rw [tick_n hk1 hk]
  exact ⟨(it_GZ h.1 (by omega) k (by omega)).mono (by omega), tb_it h.1 (by omega) (by omega) (h.mono (by omega)).2 k (by omega)⟩
theorem dist_GB (h : GB B z) (h0 : 0 ≤ B) (hB : B < 5000) (hk : s_X11_disturb_k a = 0) (h1 : -100 ≤ a.toInt) (h2 : a.toInt ≤ 100) : GB (B + 200) (s_X11_disturb_z a z) ∧ s_X11_disturb_z a z 1 5 = z 1 5 + a := by
  obtain ⟨hz, ht⟩ := h
  obtain ⟨e1, -⟩ := dist_1 (z := z) hk
  unfold TB at ht
  have ea : (z 1 5 + a).toInt = (z 1 5).toInt + a.toInt := t_add (by omega) (by omega)
  have el : (-9999 : Int32).toInt = -9999 := rfl
  have eh : (9999 : Int32).toInt = 9999 := rfl
  have ew : s_X11_within_r (z 1 5 + a) (-9999) 9999 = z 1 5 + a := by
    rw [t_eq, within_at (by decide), ea, el, eh, if_neg (by omega), if_neg (by omega)]
  have e5 : s_X11_disturb_z a z 1 5 = z 1 5 + a := by rw [e1, upd_at, ew]
  refine ⟨⟨(dist_GZ hz hk).mono (by omega), ?_⟩, e5⟩
  unfold TB
  rw [e5, ea]
  omega
end TMP

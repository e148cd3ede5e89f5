/-! ===== numbers of the class as integers; what a state keeps ===== -/
section NUM
variable {a b c : Int32}
theorem t_b (x : Int32) : -2147483648 ≤ x.toInt ∧ x.toInt < 2147483648 := by
  have h1 := x.le_toInt
  have h2 := x.toInt_lt
  have e1 : (-2 ^ 31 : Int) = -2147483648 := rfl
  have e2 : (2 ^ 31 : Int) = 2147483648 := rfl
  omega
theorem bm32 {n : Int} (h1 : -2147483648 ≤ n) (h2 : n < 2147483648) : n.bmod (2 ^ 32) = n := by
  have e : ((2 ^ 32 : Nat) : Int) = 4294967296 := rfl
  exact Int.bmod_eq_of_le_mul_two (by rw [e]; omega) (by rw [e]; omega)
theorem t_add (h1 : -2147483648 ≤ a.toInt + b.toInt) (h2 : a.toInt + b.toInt < 2147483648) : (a + b).toInt = a.toInt + b.toInt := by rw [Int32.toInt_add]; exact bm32 h1 h2
theorem t_sub (h1 : -2147483648 ≤ a.toInt - b.toInt) (h2 : a.toInt - b.toInt < 2147483648) : (a - b).toInt = a.toInt - b.toInt := by rw [Int32.toInt_sub]; exact bm32 h1 h2
theorem t_mul (h1 : -2147483648 ≤ a.toInt * b.toInt) (h2 : a.toInt * b.toInt < 2147483648) : (a * b).toInt = a.toInt * b.toInt := by rw [Int32.toInt_mul]; exact bm32 h1 h2
theorem t_neg (h1 : -2147483647 ≤ a.toInt) : (-a).toInt = -a.toInt := by
  have := t_b a
  rw [Int32.toInt_neg]; exact bm32 (by omega) (by omega)
theorem t_div (hb : 0 < b.toInt) : (a / b).toInt = a.toInt.tdiv b.toInt := Int32.toInt_div_of_ne_right _ _ (fun h => by
  rw [h] at hb
  exact absurd hb (by decide))
theorem t_divp (ha : 0 ≤ a.toInt) (hb : 0 < b.toInt) : (a / b).toInt = a.toInt / b.toInt := by rw [t_div hb]; exact Int.tdiv_eq_ediv_of_nonneg ha
theorem t_lt : a < b ↔ a.toInt < b.toInt := Int32.lt_iff_toInt_lt
theorem t_le : a ≤ b ↔ a.toInt ≤ b.toInt := Int32.le_iff_toInt_le
theorem t_eq : a = b ↔ a.toInt = b.toInt := Int32.toInt_inj.symm
theorem t_n {n : Nat} (h : n < 2147483648) : (nI n).toInt = (n : Int) := nI_toInt h
theorem t_tn (h : 0 ≤ a.toInt) : ((tn a : Nat) : Int) = a.toInt := by
  show ((a.toInt.toNat : Nat) : Int) = a.toInt
  omega
theorem t_nI (h : 0 ≤ a.toInt) : a = nI (tn a) := by
  have hb := t_b a
  have h2 := t_tn h
  rw [t_eq, t_n (by omega), h2]
/-- between two numbers -/
def rg (x : Int32) (a b : Int) : Prop := a ≤ x.toInt ∧ x.toInt ≤ b
theorem within_rg (h : b.toInt ≤ c.toInt) : b.toInt ≤ (s_X11_within_r a b c).toInt ∧ (s_X11_within_r a b c).toInt ≤ c.toInt := by
  unfold s_X11_within_r
  (try dsimp only)
  by_cases h1 : b ≤ a
  · rw [if_pos h1]
    by_cases h2 : a ≤ c
    · rw [if_pos h2]; exact ⟨t_le.mp h1, t_le.mp h2⟩
    · rw [if_neg h2]; exact ⟨h, Int.le_refl _⟩
  · rw [if_neg h1]; exact ⟨Int.le_refl _, h⟩
/-- what a limit leaves -/
theorem within_at (h : b.toInt ≤ c.toInt) : (s_X11_within_r a b c).toInt = if a.toInt < b.toInt then b.toInt else if c.toInt < a.toInt then c.toInt else a.toInt := by
  unfold s_X11_within_r
  (try dsimp only)
  by_cases h1 : b ≤ a
  · have k1 : ¬ a.toInt < b.toInt := by have := t_le.mp h1; omega
    rw [if_pos h1, if_neg k1]
    by_cases h2 : a ≤ c
    · have k2 : ¬ c.toInt < a.toInt := by have := t_le.mp h2; omega
      rw [if_pos h2, if_neg k2]
    · have k2 : c.toInt < a.toInt := by have := mt t_le.mpr h2; omega
      rw [if_neg h2, if_pos k2]
  · have k1 : a.toInt < b.toInt := by have := mt t_le.mpr h1; omega
    rw [if_neg h1, if_pos k1]
theorem size_t (h : -2147483647 ≤ a.toInt) : (sizeF a).toInt = if a.toInt < 0 then -a.toInt else a.toInt := by
  unfold sizeF
  by_cases h1 : a < 0
  · rw [if_pos h1, if_pos (show a.toInt < 0 from t_lt.mp h1), t_neg h]
  · rw [if_neg h1, if_neg (show ¬ a.toInt < 0 from fun q => h1 (t_lt.mpr q))]
theorem rg_vp {n : Nat} (h : rg a 0 n) (hn : n < 1000000) : vp_in a (n + 1) := by
  obtain ⟨h1, h2⟩ := h
  rw [t_nI h1]
  have := t_tn h1
  exact vp_in_nI (by omega) (by omega)
theorem vp_rg {n : Nat} (h : vp_in a (n + 1)) (hn : n < 1000000) : rg a 0 n := by
  obtain ⟨j, hj, rfl⟩ := vp_in_of h (by omega)
  unfold rg
  rw [t_n (by omega)]
  omega
end NUM
/-- the heater -/
def GP (x f : Nat → Int32) : Prop := rg (x 0) 1 20 ∧ rg (x 1) 1 50 ∧ rg (x 2) 0 9 ∧ rg (x 3) (-99) 99 ∧ rg (x 4) 1 99 ∧ rg (x 5) (-9999) 9999 ∧ rg (x 7) 0 9 ∧ ∀ k, k < 10 → 0 ≤ (f k).toInt ∧ (f k).toInt ≤ (x 4).toInt
def md3 (v : Int32) : Prop := v = 0 ∨ v = 1 ∨ v = 2
/-- the controller -/
def GC (x : Nat → Int32) : Prop := (rg (x 0) 0 999 ∧ rg (x 1) 0 20 ∧ rg (x 2) 0 99) ∧ (rg (x 3) 0 9999 ∧ rg (x 4) 0 9999 ∧ rg (x 5) 0 9999) ∧ md3 (x 6) ∧ (x 7 = 0 ∨ x 7 = 1) ∧ (¬ x 6 = 1 → x 7 = 0) ∧ rg (x 8) (-9999) 9999 ∧ (x 10 = 0 ∨ x 10 = 1)
/-- the swings that are kept: n of them, at the clock C -/
def SW (fp fh fl fe : Nat → Int32) (n : Nat) (C : Int) : Prop := ∀ j, j < n → (1 ≤ (fp j).toInt ∧ (fp j).toInt ≤ C) ∧ (-9999 ≤ (fl j).toInt ∧ (fl j).toInt ≤ (fh j).toInt ∧ (fh j).toInt ≤ 9999) ∧ (0 ≤ (fe j).toInt ∧ (fe j).toInt ≤ C) ∧ (0 < j → (fe (j - 1)).toInt + (fp j).toInt ≤ (fe j).toInt)
/-- the swings, with what goes on; w the row of numbers, C the clock -/
def GW (w fp fh fl fe : Nat → Int32) (C : Int) : Prop := (w 6 = 0 ∨ w 6 = 1) ∧ rg (w 8) (-9999) 9999 ∧ rg (w 9) (-9999) 9999 ∧ ∃ n, n ≤ 20 ∧ w 0 = nI n ∧ SW fp fh fl fe n C ∧ (w 6 = 1 → 0 ≤ (w 7).toInt ∧ (w 7).toInt ≤ C ∧ (0 < n → (fe (n - 1)).toInt ≤ (w 7).toInt))
/-- the trials -/
def GT (x f : Nat → Int32) : Prop := ∃ n, n ≤ 8 ∧ x 0 = nI n ∧ ∀ t, t < n → rg (f (4 * t)) 0 9999 ∧ rg (f (4 * t + 1)) 0 9999 ∧ rg (f (4 * t + 2)) 0 9999 ∧ md3 (f (4 * t + 3))
/-- the accounts: C the clock, P the full power, w the swings' numbers -/
def GA (x f w : Nat → Int32) (c : Int32) (P : Int) : Prop := (0 ≤ (x 1).toInt ∧ (x 1).toInt ≤ P) ∧ (0 ≤ (x 2).toInt ∧ (x 2).toInt ≤ c.toInt * P) ∧ (0 ≤ (x 3).toInt ∧ (x 3).toInt ≤ c.toInt) ∧ (0 ≤ (x 4).toInt ∧ (x 4).toInt ≤ c.toInt) ∧ (0 < (w 0).toInt ∨ w 6 = 1 → (w 0).toInt + 1 ≤ (x 4).toInt) ∧ c = f 0 + f 1 + f 2
/-- a state, the clock at most B -/
def GZ (B : Int) (z : Zs) : Prop := (0 ≤ (z 0 0).toInt ∧ (z 0 0).toInt ≤ B) ∧ GP (z 1) (z 2) ∧ GC (z 3) ∧ GW (z 4) (z 5) (z 6) (z 7) (z 8) (z 0 0).toInt ∧ GT (z 9) (z 10) ∧ GA (z 11) (z 12) (z 4) (z 0 0) (z 1 4).toInt
theorem GZ.mono {B B' : Int} {z : Zs} (h : GZ B z) (hb : B ≤ B') : GZ B' z := ⟨⟨h.1.1, Int.le_trans h.1.2 hb⟩, h.2⟩
theorem GZ.ts {B : Int} {z : Zs} (h : GZ B z) : TS z := by
  obtain ⟨-, ⟨-, -, -, -, -, -, h7, -⟩, ⟨-, -, -, hr, -, -, he⟩, ⟨hg, -, -, n, hn, h0, -⟩, -⟩ := h
  exact ⟨⟨by rw [h0]; exact vp_in_nI (by omega) (by omega), rg_vp h7 (by decide), hr⟩, he, hg⟩
theorem n_lt (n : Nat) (h : n ≤ 100) : n < 2147483648 := by omega
section WORK
variable {x f : Nat → Int32} {o : Int32}
/-- where the newest output goes -/
def nw (x : Nat → Int32) : Int32 := if x 7 < 0 then 0 else if 10 ≤ x 7 + 1 then 0 else x 7 + 1
theorem nw_rg (h : rg (x 7) 0 9) : rg (nw x) 0 9 := by
  obtain ⟨h1, h2⟩ := h
  unfold nw rg
  have e1 : (1 : Int32).toInt = 1 := rfl
  have e10 : (10 : Int32).toInt = 10 := rfl
  have ea : (x 7 + 1).toInt = (x 7).toInt + 1 := by rw [t_add (by omega) (by omega), e1]
  rw [if_neg (fun q => by have := t_lt.mp q; have e0 : (0 : Int32).toInt = 0 := rfl; omega)]
  by_cases h3 : 10 ≤ x 7 + 1
  · rw [if_pos h3]; exact ⟨by decide, by decide⟩
  · rw [if_neg h3]
    have := mt t_le.mpr h3
    omega
/-- the power that works, and the rest level -/
def pwR (o : Int32) (x f : Nat → Int32) : Int32 := s_X3_power_r (upd x 7 (nw x)) (upd f (tn (nw x)) o)
def rsR (o : Int32) (x f : Nat → Int32) : Int32 := x 3 + x 0 * pwR o x f
def chR (o : Int32) (x f : Nat → Int32) : Int32 := if (if x 1 ≤ 0 then 0 else (rsR o x f - x 5) / x 1) = 0 then s_J6_compare_7cf53_r (rsR o x f) (x 5) else (if x 1 ≤ 0 then 0 else (rsR o x f - x 5) / x 1)
theorem work_0 : s_X3_work_w0 o x f = upd (upd x 7 (nw x)) 5 (s_X11_within_r (x 5 + chR o x f) (-9999) 9999) := rfl
theorem work_1 : s_X3_work_w1 o x f = upd f (tn (nw x)) o := rfl
theorem pw_rg (h : GP x f) (ho : 0 ≤ o.toInt ∧ o.toInt ≤ (x 4).toInt) : 0 ≤ (pwR o x f).toInt ∧ (pwR o x f).toInt ≤ (x 4).toInt := by
  obtain ⟨-, -, h2, -, h4, -, h7, hf⟩ := h
  have hn := nw_rg h7
  have hu : ∀ k, k < 10 → 0 ≤ (upd f (tn (nw x)) o k).toInt ∧ (upd f (tn (nw x)) o k).toInt ≤ (x 4).toInt := by
    intro k hk
    by_cases e : k = tn (nw x)
    · subst e; rw [upd_at]; exact ho
    · rw [upd_ne e]; exact hf k hk
  have h0 : 0 ≤ (0 : Int32).toInt ∧ (0 : Int32).toInt ≤ (x 4).toInt := ⟨by decide, by have e0 : (0 : Int32).toInt = 0 := rfl; have := h4.1; omega⟩
  unfold pwR s_X3_power_r
  (try dsimp only)
  generalize (if 0 ≤ upd x 7 (nw x) 7 - upd x 7 (nw x) 2 then upd x 7 (nw x) 7 - upd x 7 (nw x) 2 else upd x 7 (nw x) 7 - upd x 7 (nw x) 2 + 10) = v
  by_cases c1 : v < 0
  · rw [if_pos c1]; exact h0
  · rw [if_neg c1]
    by_cases c2 : 10 ≤ v
    · rw [if_pos c2]; exact h0
    · rw [if_neg c2]
      have d1 := mt t_lt.mpr c1
      have d2 := mt t_le.mpr c2
      have e0 : (0 : Int32).toInt = 0 := rfl
      have e10 : (10 : Int32).toInt = 10 := rfl
      have := t_tn (a := v) (by omega)
      exact hu _ (by omega)
/-- with no delay it is this tick's output -/
theorem pw_0 (h7 : rg (x 7) 0 9) (h2 : x 2 = 0) : pwR o x f = o := by
  have hn := nw_rg h7
  unfold pwR s_X3_power_r
  (try dsimp only)
  have e1 : upd x 7 (nw x) 7 - upd x 7 (nw x) 2 = nw x := by rw [upd_at, upd_ne (by decide), h2, t_eq]; rw [Int32.toInt_sub]; show ((nw x).toInt - 0).bmod _ = _; rw [Int.sub_zero]; exact bm32 (by have := hn.1; omega) (by have := hn.2; omega)
  rw [e1]
  have e0 : (0 : Int32).toInt = 0 := rfl
  have e10 : (10 : Int32).toInt = 10 := rfl
  rw [if_pos (t_le.mpr (by rw [e0]; exact hn.1)), if_neg (fun q => by have := t_lt.mp q; have := hn.1; omega), if_neg (fun q => by have := t_le.mp q; have := hn.2; omega), upd_at]
theorem rs_rg (h : GP x f) (ho : 0 ≤ o.toInt ∧ o.toInt ≤ (x 4).toInt) : (rsR o x f).toInt = (x 3).toInt + (x 0).toInt * (pwR o x f).toInt ∧ -99 ≤ (rsR o x f).toInt ∧ (rsR o x f).toInt ≤ 2079 ∧ (x 0).toInt * (pwR o x f).toInt ≤ (x 0).toInt * (x 4).toInt := by
  have hp := pw_rg h ho
  obtain ⟨h0, -, -, h3, h4, -⟩ := h
  have m1 : 0 ≤ (x 0).toInt * (pwR o x f).toInt := Int.mul_nonneg (by have := h0.1; omega) hp.1
  have m2 : (x 0).toInt * (pwR o x f).toInt ≤ (x 0).toInt * (x 4).toInt := Int.mul_le_mul_of_nonneg_left hp.2 (by have := h0.1; omega)
  have m3 : (x 0).toInt * (x 4).toInt ≤ 20 * 99 := Int.mul_le_mul h0.2 h4.2 (by have := h4.1; omega) (by decide)
  have a1 := h3.1
  have a2 := h3.2
  have em : (x 0 * pwR o x f).toInt = (x 0).toInt * (pwR o x f).toInt := t_mul (by omega) (by omega)
  have es : (rsR o x f).toInt = (x 3).toInt + (x 0).toInt * (pwR o x f).toInt := by
    unfold rsR
    rw [t_add (by rw [em]; omega) (by rw [em]; omega), em]
  exact ⟨es, by omega, by omega, m2⟩
theorem tdiv_pos_le {g n : Int} (hg : 0 ≤ g) (hn : 1 ≤ n) : 0 ≤ g.tdiv n ∧ g.tdiv n ≤ g := by
  rw [Int.tdiv_eq_ediv_of_nonneg hg]
  exact ⟨Int.ediv_nonneg hg (by omega), Int.ediv_le_self _ hg⟩
/-- the change: towards the rest level, by at least 1 -/
theorem ch_t (h : GP x f) (ho : 0 ≤ o.toInt ∧ o.toInt ≤ (x 4).toInt) : (chR o x f).toInt = (if ((rsR o x f).toInt - (x 5).toInt).tdiv (x 1).toInt = 0 then (if (rsR o x f).toInt < (x 5).toInt then -1 else if (rsR o x f).toInt = (x 5).toInt then 0 else 1) else ((rsR o x f).toInt - (x 5).toInt).tdiv (x 1).toInt) := by
  obtain ⟨-, r1, r2, -⟩ := rs_rg h ho
  obtain ⟨-, h1, -, -, -, h5, -⟩ := h
  have b1 := h1.1
  have b5 := h5.1
  have b6 := h5.2
  have e0 : (0 : Int32).toInt = 0 := rfl
  have ed : (rsR o x f - x 5).toInt = (rsR o x f).toInt - (x 5).toInt := t_sub (by omega) (by omega)
  have eq : ((rsR o x f - x 5) / x 1).toInt = ((rsR o x f).toInt - (x 5).toInt).tdiv (x 1).toInt := by rw [t_div (by omega), ed]
  unfold chR
  rw [if_neg (fun q : x 1 ≤ 0 => by have := t_le.mp q; omega)]
  by_cases c : (rsR o x f - x 5) / x 1 = 0
  · rw [if_pos c, if_pos (by rw [← eq, c]; rfl)]
    unfold s_J6_compare_7cf53_r
    (try dsimp only)
    by_cases c1 : x 5 ≤ rsR o x f
    · have k1 : ¬ (rsR o x f).toInt < (x 5).toInt := by have := t_le.mp c1; omega
      rw [if_pos c1, if_neg k1]
      by_cases c2 : rsR o x f = x 5
      · rw [if_pos c2, if_pos (t_eq.mp c2)]; rfl
      · rw [if_neg c2, if_neg (fun q => c2 (t_eq.mpr q))]; rfl
    · have k1 : (rsR o x f).toInt < (x 5).toInt := by have := mt t_le.mpr c1; omega
      rw [if_neg c1, if_pos k1]; rfl
  · rw [if_neg c, if_neg (fun q => c (t_eq.mpr (by rw [eq, q]; rfl)))]
    exact eq
theorem ch_bd (h : GP x f) (ho : 0 ≤ o.toInt ∧ o.toInt ≤ (x 4).toInt) : ((x 5).toInt ≤ (rsR o x f).toInt → 0 ≤ (chR o x f).toInt ∧ (chR o x f).toInt ≤ (rsR o x f).toInt - (x 5).toInt) ∧ ((rsR o x f).toInt ≤ (x 5).toInt → (rsR o x f).toInt - (x 5).toInt ≤ (chR o x f).toInt ∧ (chR o x f).toInt ≤ 0) := by
  have hc := ch_t h ho
  have h1 := h.2.1.1
  rw [hc]
  constructor
  · intro q
    obtain ⟨q1, q2⟩ := tdiv_pos_le (g := (rsR o x f).toInt - (x 5).toInt) (n := (x 1).toInt) (by omega) h1
    split
    · rw [if_neg (by omega)]
      split <;> omega
    · exact ⟨q1, q2⟩
  · intro q
    obtain ⟨q1, q2⟩ := tdiv_pos_le (g := -((rsR o x f).toInt - (x 5).toInt)) (n := (x 1).toInt) (by omega) h1
    rw [Int.neg_tdiv] at q1 q2
    split
    · by_cases e : (rsR o x f).toInt < (x 5).toInt
      · rw [if_pos e]; omega
      · rw [if_neg e, if_pos (by omega)]; omega
    · omega
/-- the temperature behind a tick -/
theorem tm_t (h : GP x f) (ho : 0 ≤ o.toInt ∧ o.toInt ≤ (x 4).toInt) : (s_X3_work_w0 o x f 5).toInt = (if (x 5).toInt + (chR o x f).toInt < -9999 then -9999 else if 9999 < (x 5).toInt + (chR o x f).toInt then 9999 else (x 5).toInt + (chR o x f).toInt) := by
  obtain ⟨-, r1, r2, -⟩ := rs_rg h ho
  obtain ⟨b1, b2⟩ := ch_bd h ho
  obtain ⟨-, -, -, -, -, h5, -⟩ := h
  have b5 := h5.1
  have b6 := h5.2
  have hb : -10200 ≤ (chR o x f).toInt ∧ (chR o x f).toInt ≤ 12100 := by
    rcases Int.le_total (x 5).toInt (rsR o x f).toInt with q | q
    · have := b1 q; omega
    · have := b2 q; omega
  have es : (x 5 + chR o x f).toInt = (x 5).toInt + (chR o x f).toInt := t_add (by omega) (by omega)
  have el : (-9999 : Int32).toInt = -9999 := rfl
  have eh : (9999 : Int32).toInt = 9999 := rfl
  rw [work_0, upd_at, within_at (by decide), es, el, eh]
theorem work_GP (h : GP x f) (ho : 0 ≤ o.toInt ∧ o.toInt ≤ (x 4).toInt) : GP (s_X3_work_w0 o x f) (s_X3_work_w1 o x f) := by
  have ht := tm_t h ho
  obtain ⟨h0, h1, h2, h3, h4, h5, h7, hf⟩ := h
  have k : ∀ j, j ≠ 5 → j ≠ 7 → s_X3_work_w0 o x f j = x j := fun j q1 q2 => by rw [work_0, upd_ne q1, upd_ne q2]
  have k7 : s_X3_work_w0 o x f 7 = nw x := by rw [work_0, upd_ne (by decide), upd_at]
  refine ⟨by rw [k 0 (by decide) (by decide)]; exact h0, by rw [k 1 (by decide) (by decide)]; exact h1, by rw [k 2 (by decide) (by decide)]; exact h2, by rw [k 3 (by decide) (by decide)]; exact h3, by rw [k 4 (by decide) (by decide)]; exact h4, ?_, by rw [k7]; exact nw_rg h7, ?_⟩
  · unfold rg
    rw [ht]
    split
    · omega
    · split <;> omega
  · intro j hj
    rw [k 4 (by decide) (by decide), work_1]
    by_cases e : j = tn (nw x)
    · subst e; rw [upd_at]; exact ho
    · rw [upd_ne e]; exact hf j hj
end WORK
section CTRL
variable {x : Nat → Int32} {t P : Int32}
theorem relay_keep {j : Nat} (hj : j ≠ 7) : s_X1_relayAt_w0 t x j = x j := by
  unfold s_X1_relayAt_w0
  (try dsimp only)
  exact ite_P (P := fun w : Nat → Int32 => w j = x j) (fun _ => ite_P (P := fun w : Nat → Int32 => w j = x j) (fun _ => rfl) (fun _ => upd_ne hj)) (fun _ => upd_ne hj)
theorem relay_7 (h : x 7 = 0 ∨ x 7 = 1) : s_X1_relayAt_w0 t x 7 = 0 ∨ s_X1_relayAt_w0 t x 7 = 1 := by
  unfold s_X1_relayAt_w0
  (try dsimp only)
  exact ite_P (P := fun w : Nat → Int32 => w 7 = 0 ∨ w 7 = 1) (fun _ => ite_P (P := fun w : Nat → Int32 => w 7 = 0 ∨ w 7 = 1) (fun _ => h) (fun _ => Or.inr (upd_at _ _ _))) (fun _ => Or.inl (upd_at _ _ _))
theorem ctrl_keep {j : Nat} (h8 : j ≠ 8) (h9 : j ≠ 9) (h10 : j ≠ 10) : s_X1_controlAt_w0 t P x j = x j := by
  unfold s_X1_controlAt_w0
  (try dsimp only)
  rw [upd_ne h10, upd_ne h9]
  exact ite_P (P := fun w : Nat → Int32 => w j = x j) (fun _ => upd_ne h8) (fun _ => rfl)
/-- what the control wanted to give -/
def wnR (t : Int32) (x : Nat → Int32) : Int32 := (((x 3 * (x 0 - t)) + (x 4 * x 8)) + (x 5 * (if x 10 = 0 then 0 else ((x 0 - t) - x 9)))) / 100
theorem ctrl_8 : s_X1_controlAt_w0 t P x 8 = if s_X11_within_r (wnR t x) 0 P = wnR t x then s_X11_within_r (x 8 + (x 0 - t)) (-9999) 9999 else x 8 := by
  unfold s_X1_controlAt_w0 wnR
  (try dsimp only)
  rw [upd_ne (by decide), upd_ne (by decide)]
  by_cases c : s_X11_within_r ((((x 3 * (x 0 - t)) + (x 4 * x 8)) + (x 5 * (if x 10 = 0 then 0 else ((x 0 - t) - x 9)))) / 100) 0 P = (((x 3 * (x 0 - t)) + (x 4 * x 8)) + (x 5 * (if x 10 = 0 then 0 else ((x 0 - t) - x 9)))) / 100
  · rw [if_pos c, if_pos c, upd_at]
  · rw [if_neg c, if_neg c]
theorem ctrl_10 : s_X1_controlAt_w0 t P x 10 = 1 := by
  unfold s_X1_controlAt_w0
  (try dsimp only)
  exact upd_at _ _ _
theorem out_keep {j : Nat} (h7 : j ≠ 7) (h8 : j ≠ 8) (h9 : j ≠ 9) (h10 : j ≠ 10) : s_X1_outputAt_w0 t P x j = x j := by
  unfold s_X1_outputAt_w0
  exact ite_P (P := fun w : Nat → Int32 => w j = x j) (fun _ => relay_keep h7) (fun _ => ite_P (P := fun w : Nat → Int32 => w j = x j) (fun _ => ctrl_keep h8 h9 h10) (fun _ => rfl))
theorem out_rg (hP : 0 ≤ P.toInt) : 0 ≤ (s_X1_outputAt_r t P x).toInt ∧ (s_X1_outputAt_r t P x).toInt ≤ P.toInt := by
  have e0 : (0 : Int32).toInt = 0 := rfl
  unfold s_X1_outputAt_r
  (try dsimp only)
  by_cases c : x 6 = 1
  · rw [if_pos c]
    by_cases c1 : s_X1_relayAt_r t x = 0
    · rw [if_pos c1, e0]; omega
    · rw [if_neg c1]; omega
  · rw [if_neg c]
    by_cases c1 : x 6 = 2
    · rw [if_pos c1]
      unfold s_X1_controlAt_r
      (try dsimp only)
      have := within_rg (a := ((((x 3 * (x 0 - t)) + (x 4 * x 8)) + (x 5 * (if x 10 = 0 then 0 else ((x 0 - t) - x 9)))) / 100)) (b := 0) (c := P) (by rw [e0]; exact hP)
      rw [e0] at this
      exact this
    · rw [if_neg c1, e0]; omega
theorem out_GC (h : GC x) : GC (s_X1_outputAt_w0 t P x) := by
  obtain ⟨⟨a0, a1, a2⟩, ⟨a3, a4, a5⟩, a6, a7, a67, a8, a10⟩ := h
  have k := fun {j : Nat} => @out_keep x t P j
  refine ⟨⟨by rw [k (by decide) (by decide) (by decide) (by decide)]; exact a0, by rw [k (by decide) (by decide) (by decide) (by decide)]; exact a1, by rw [k (by decide) (by decide) (by decide) (by decide)]; exact a2⟩, ⟨by rw [k (by decide) (by decide) (by decide) (by decide)]; exact a3, by rw [k (by decide) (by decide) (by decide) (by decide)]; exact a4, by rw [k (by decide) (by decide) (by decide) (by decide)]; exact a5⟩, by rw [k (by decide) (by decide) (by decide) (by decide)]; exact a6, ?_, ?_, ?_, ?_⟩
  · unfold s_X1_outputAt_w0
    by_cases c : x 6 = 1
    · rw [if_pos c]; exact relay_7 a7
    · rw [if_neg c]
      by_cases c2 : x 6 = 2
      · rw [if_pos c2, ctrl_keep (by decide) (by decide) (by decide)]; exact a7
      · rw [if_neg c2]; exact a7
  · rw [k (by decide) (by decide) (by decide) (by decide)]
    intro q
    unfold s_X1_outputAt_w0
    rw [if_neg q]
    by_cases c2 : x 6 = 2
    · rw [if_pos c2, ctrl_keep (by decide) (by decide) (by decide)]; exact a67 q
    · rw [if_neg c2]; exact a67 q
  · unfold s_X1_outputAt_w0
    by_cases c : x 6 = 1
    · rw [if_pos c, relay_keep (by decide)]; exact a8
    · rw [if_neg c]
      by_cases c2 : x 6 = 2
      · rw [if_pos c2, ctrl_8]
        exact ite_P (P := fun w => rg w (-9999) 9999) (fun _ => within_rg (b := -9999) (c := 9999) (by decide)) (fun _ => a8)
      · rw [if_neg c2]; exact a8
  · unfold s_X1_outputAt_w0
    by_cases c : x 6 = 1
    · rw [if_pos c, relay_keep (by decide)]; exact a10
    · rw [if_neg c]
      by_cases c2 : x 6 = 2
      · rw [if_pos c2]; exact Or.inr ctrl_10
      · rw [if_neg c2]; exact a10
end CTRL

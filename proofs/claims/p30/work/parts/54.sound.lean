/-! ===== the middle of some numbers; what the law calls sound ===== -/
def cN (P : Int32 → Bool) (f : Nat → Int32) : Nat → Nat
  | 0 => 0
  | k + 1 => cN P f k + (if P (f k) then 1 else 0)
def c1N (P : Int32 → Bool) (v : Nat → Int32) : Nat → Nat
  | 0 => 0
  | k + 1 => c1N P v k + (if P (v (k + 1)) then 1 else 0)
section MID
variable {P : Int32 → Bool} {f g o val : Nat → Int32} {v : Int32}
theorem cN_cong : ∀ {k : Nat}, (∀ i, i < k → f i = g i) → cN P f k = cN P g k
  | 0, _ => rfl
  | k + 1, h => by
    simp only [cN]
    rw [cN_cong (fun i hi => h i (by omega)), h k (by omega)]
theorem insF_cN : ∀ (t : Nat) (o : Nat → Int32), cN P (insF o v t) (t + 1) = cN P o t + (if P v then 1 else 0)
  | 0, o => by
    show 0 + (if P (upd o 0 v 0) then 1 else 0) = 0 + (if P v then 1 else 0)
    rw [upd_at]
  | t + 1, o => by
    simp only [insF]
    by_cases c : v < o t
    · rw [if_pos c]
      have e1 : cN P (insF (upd o (t + 1) (o t)) v t) (t + 1 + 1) = cN P (insF (upd o (t + 1) (o t)) v t) (t + 1) + (if P (insF (upd o (t + 1) (o t)) v t (t + 1)) then 1 else 0) := rfl
      rw [e1, insF_cN t, insF_out (by omega), upd_at, cN_cong (g := o) (fun i hi => upd_ne (by omega))]
      show _ = cN P o t + (if P (o t) then 1 else 0) + _
      omega
    · rw [if_neg c]
      have e1 : cN P (upd o (t + 1) v) (t + 1 + 1) = cN P (upd o (t + 1) v) (t + 1) + (if P (upd o (t + 1) v (t + 1)) then 1 else 0) := rfl
      rw [e1, upd_at, cN_cong (g := o) (fun i hi => upd_ne (by omega))]
theorem midS_cN : ∀ k : Nat, cN P (midS val k o) k = c1N P val k
  | 0 => rfl
  | k + 1 => by
    simp only [midS, c1N]
    rw [insF_cN, midS_cN k]
/-- in order -/
def srt (f : Nat → Int32) (k : Nat) : Prop := ∀ i j, i ≤ j → j < k → (f i).toInt ≤ (f j).toInt
theorem insF_le {M : Int} : ∀ {t : Nat} {o : Nat → Int32}, (∀ i, i < t → (o i).toInt ≤ M) → v.toInt ≤ M → ∀ i, i ≤ t → (insF o v t i).toInt ≤ M
  | 0, o, _, hv, i, hi => by
    have : i = 0 := by omega
    subst this
    simp only [insF]
    rw [upd_at]
    exact hv
  | t + 1, o, h, hv, i, hi => by
    simp only [insF]
    by_cases c : v < o t
    · rw [if_pos c]
      by_cases e : i = t + 1
      · subst e
        rw [insF_out (by omega), upd_at]
        exact h t (by omega)
      · exact insF_le (fun j hj => by rw [upd_ne (by omega)]; exact h j (by omega)) hv i (by omega)
    · rw [if_neg c]
      by_cases e : i = t + 1
      · subst e; rw [upd_at]; exact hv
      · rw [upd_ne e]; exact h i (by omega)
theorem insF_srt : ∀ {t : Nat} {o : Nat → Int32}, srt o t → srt (insF o v t) (t + 1)
  | 0, o, _ => fun i j hij hj => by
    have e1 : i = 0 := by omega
    have e2 : j = 0 := by omega
    subst e1; subst e2
    exact Int.le_refl _
  | t + 1, o, h => by
    intro i j hij hj
    simp only [insF]
    by_cases c : v < o t
    · rw [if_pos c]
      have hs : srt (upd o (t + 1) (o t)) t := fun a b hab hb => by
        rw [upd_ne (by omega), upd_ne (by omega)]
        exact h a b hab (by omega)
      by_cases e : j = t + 1
      · subst e
        rw [insF_out (i := t + 1) (by omega), upd_at]
        by_cases e2 : i = t + 1
        · subst e2; rw [insF_out (by omega), upd_at]; exact Int.le_refl _
        · exact insF_le (M := (o t).toInt) (fun a ha => by rw [upd_ne (by omega)]; exact h a t (by omega) (by omega)) (by have := t_lt.mp c; omega) i (by omega)
      · exact insF_srt hs i j hij (by omega)
    · rw [if_neg c]
      have c := mt t_lt.mpr c
      by_cases e : j = t + 1
      · subst e
        rw [upd_at]
        by_cases e2 : i = t + 1
        · subst e2; rw [upd_at]; exact Int.le_refl _
        · rw [upd_ne e2]
          have := h i t (by omega) (by omega)
          omega
      · rw [upd_ne e, upd_ne (by omega)]
        exact h i j hij (by omega)
theorem midS_srt : ∀ k : Nat, srt (midS val k o) k
  | 0 => fun i j _ hj => absurd hj (Nat.not_lt_zero _)
  | k + 1 => insF_srt (midS_srt k)
theorem cN_hi {m : Nat} : ∀ {k : Nat}, (∀ i, m ≤ i → i < k → P (f i) = false) → cN P f k ≤ m
  | 0, _ => Nat.zero_le _
  | k + 1, h => by
    simp only [cN]
    by_cases c : m ≤ k
    · rw [h k c (by omega)]
      have := cN_hi (k := k) (fun i h1 h2 => h i h1 (by omega))
      simpa using this
    · have h9 : ∀ q : Nat, cN P f q ≤ q := fun q => by
        induction q with
        | zero => exact Nat.le_refl _
        | succ q ih =>
          simp only [cN]
          split <;> omega
      have := h9 k
      split <;> omega
theorem cN_lo {m : Nat} : ∀ {k : Nat}, (∀ i, i < m → i < k → P (f i) = false) → cN P f k ≤ k - m
  | 0, _ => Nat.zero_le _
  | k + 1, h => by
    simp only [cN]
    have := cN_lo (k := k) (fun i h1 h2 => h i h1 (by omega))
    by_cases c : k < m
    · rw [h k c (by omega)]
      simp only [Bool.false_eq_true, if_false]
      omega
    · split <;> omega
theorem cN_0 : ∀ {k : Nat}, cN P f k = 0 → ∀ i, i < k → P (f i) = false
  | 0, _, i, hi => absurd hi (Nat.not_lt_zero _)
  | k + 1, h, i, hi => by
    simp only [cN] at h
    by_cases e : i = k
    · subst e
      cases hp : P (f i) with
      | false => rfl
      | true => rw [hp, if_pos rfl] at h; omega
    · exact cN_0 (k := k) (by omega) i (by omega)
theorem c1N_0 : ∀ {k : Nat}, (∀ j, 1 ≤ j → j ≤ k → P (val j) = false) → c1N P val k = 0
  | 0, _ => rfl
  | k + 1, h => by
    simp only [c1N]
    rw [c1N_0 (fun j h1 h2 => h j h1 (by omega)), h (k + 1) (by omega) (by omega)]
    rfl
/-- the middle is one of the numbers -/
theorem mid_ge {L : Int} {n : Nat} (hn : ¬ n < 2) (h : ∀ j, 1 ≤ j → j < n → L ≤ (val j).toInt) : L ≤ (midG val n).toInt := by
  have h0 := c1N_0 (P := fun y => decide (y.toInt < L)) (val := val) (k := n - 1) (fun j h1 h2 => decide_eq_false (by have := h j h1 (by omega); omega))
  rw [← midS_cN (o := fun _ => 0)] at h0
  have h1 := of_decide_eq_false (cN_0 h0 ((n - 2) / 2) (by omega))
  unfold midG
  rw [if_neg hn]
  omega
theorem mid_under {n : Nat} : 2 * c1N (fun y => decide (y < midG val n)) val (n - 1) ≤ n := by
  by_cases hn : n < 2
  · have e : n - 1 = 0 := by omega
    rw [e]
    exact Nat.zero_le _
  · have e : midG val n = midS val (n - 1) (fun _ => 0) ((n - 2) / 2) := by unfold midG; rw [if_neg hn]
    rw [← midS_cN (o := fun _ => 0)]
    have := cN_hi (P := fun y => decide (y < midG val n)) (f := midS val (n - 1) (fun _ => 0)) (m := (n - 2) / 2) (k := n - 1) (fun i h1 h2 => decide_eq_false (fun q => by
      have q := t_lt.mp q
      rw [e] at q
      have := midS_srt (val := val) (o := fun _ => 0) (n - 1) _ _ h1 h2
      omega))
    omega
theorem mid_over {n : Nat} : 2 * c1N (fun y => decide (midG val n < y)) val (n - 1) ≤ n := by
  by_cases hn : n < 2
  · have e : n - 1 = 0 := by omega
    rw [e]
    exact Nat.zero_le _
  · have e : midG val n = midS val (n - 1) (fun _ => 0) ((n - 2) / 2) := by unfold midG; rw [if_neg hn]
    rw [← midS_cN (o := fun _ => 0)]
    have := cN_lo (P := fun y => decide (midG val n < y)) (f := midS val (n - 1) (fun _ => 0)) (m := (n - 2) / 2 + 1) (k := n - 1) (fun i h1 h2 => decide_eq_false (fun q => by
      have q := t_lt.mp q
      rw [e] at q
      have := midS_srt (val := val) (o := fun _ => 0) (n - 1) i ((n - 2) / 2) (by omega) (by omega)
      omega))
    omega
end MID
theorem sizeFG (v : Int32) : sizeF v = sizeG v := by
  unfold sizeF sizeG
  by_cases c : v < 0
  · rw [if_pos c, if_neg (Int32.not_le.mpr c)]; exact neg_sub0 v
  · rw [if_neg c, if_pos (Int32.not_lt.mp c)]
section SOU
variable {z : Zs} {B : Int} {n t : Nat}
theorem k_le0 {j : Nat} (h0 : 0 < j) (h : j < 1000000) : ¬ nI j ≤ 0 := fun q => absurd ((nI_leI (a := j) (b := 0) (by omega) (by decide)).mp q) (by omega)
theorem ab_7 : qAbout 7 z = z 3 2 := rfl
theorem ab_13 : qAbout 13 z = z 0 0 := rfl
theorem md_0 : s_X11_middle_r 0 z = midG (z 5) (tn (z 4 0)) := rfl
theorem md_1 : s_X11_middle_r 1 z = midG (sC (z 6) (z 7)) (tn (z 4 0)) := rfl
theorem sw_k (e : z 4 0 = nI n) (hn : n ≤ 20) (ht : t < n) {a : Int32} (h1 : ¬ a < 0) (h2 : a ≤ 4) : s_X11_swing_k (nI t) a z = 0 := by
  unfold s_X11_swing_k
  rw [has_yes e hn ht, if_neg (by decide), if_neg h1, if_pos h2]
theorem sw_n (e : z 4 0 = nI n) (hn : n ≤ 20) (ht : t < n) : qSwing (nI t) 0 z = z 5 t ∧ qSwing (nI t) 1 z = z 6 t ∧ qSwing (nI t) 2 z = z 7 t ∧ qSwing (nI t) 4 z = z 8 t := by
  have eh := has_yes e hn ht
  have et : tn (nI t) = t := nI_clamp (by omega)
  have num : ∀ a : Int32, s_X8_number_r (nI t) a (z 4) (z 5) (z 6) (z 7) (z 8) = (if a = 0 then z 5 t else (if a = 1 then z 6 t else (if a = 2 then z 7 t else z 8 t))) := fun a => by
    unfold s_X8_number_r
    rw [eh, if_neg (by decide), et]
  refine ⟨?_, ?_, ?_, ?_⟩
  · exact (an_k0 (sw_k e hn ht (by decide) (by decide))).trans (num 0)
  · exact (an_k0 (sw_k e hn ht (by decide) (by decide))).trans (num 1)
  · exact (an_k0 (sw_k e hn ht (by decide) (by decide))).trans (num 2)
  · exact (an_k0 (sw_k e hn ht (by decide) (by decide))).trans (num 4)
theorem nI_z (ht : t < 1000000) : nI t = 0 ↔ t = 0 := by
  constructor
  · intro q
    have := congrArg Int32.toInt q
    rw [t_n (by omega)] at this
    have e0 : (0 : Int32).toInt = 0 := rfl
    omega
  · intro q; subst q; rfl
theorem sp_v (e : z 4 0 = nI n) (hn : n ≤ 20) (ht : t < n) : spanF (nI t) z = z 6 t - z 7 t := by
  obtain ⟨-, h1, h2, -⟩ := sw_n e hn ht
  unfold spanF
  rw [h1, h2]
theorem rs_odd (e : z 4 0 = nI n) (hn : n ≤ 20) (ht : t < n) : rsF z t = oddG (z 5) (sC (z 6) (z 7)) n (z 3 2) t := by
  obtain ⟨h0, -⟩ := sw_n e hn ht
  have en : tn (z 4 0) = n := by rw [e]; exact nI_clamp (by omega)
  unfold rsF oddG
  rw [h0, sp_v e hn ht, ab_7, md_0, md_1, en, sizeFG, sizeFG, Int32.mul_comm 100, Int32.mul_comm 100]
  by_cases c : t = 0
  · rw [if_pos ((nI_z (by omega)).mpr c), if_pos c]
  · rw [if_neg (fun q => c ((nI_z (by omega)).mp q)), if_neg c]
theorem sg_t (e : z 4 0 = nI n) (hn : n ≤ 20) : ∀ t, t ≤ n → sgG z t = nI (goodG (z 5) (sC (z 6) (z 7)) n (z 3 2) t)
  | 0, _ => rfl
  | t + 1, ht => by
    simp only [sgG, goodG]
    rw [sg_t e hn t (by omega), rs_odd e hn (by omega)]
    by_cases c : oddG (z 5) (sC (z 6) (z 7)) n (z 3 2) t = 0
    · rw [if_pos c, if_pos c]; exact nI_add _ 1
    · rw [if_neg c, if_neg c]; exact nI_add _ 0
theorem su_t (e : z 4 0 = nI n) (hn : n ≤ 20) : ∀ t, t ≤ n → sgU z t = nI (c1N (fun y => decide (y < midG (z 5) n)) (z 5) (t - 1))
  | 0, _ => rfl
  | 1, ht => rfl
  | t + 2, ht => by
    have en : tn (z 4 0) = n := by rw [e]; exact nI_clamp (by omega)
    show sgU z (t + 1) + _ = nI (c1N _ (z 5) t + _)
    rw [su_t e hn (t + 1) (by omega), (sw_n e hn (t := t + 1) (by omega)).1, md_0, en, if_neg (k_le0 (j := t + 1) (by omega) (by omega))]
    by_cases c : midG (z 5) n ≤ z 5 (t + 1)
    · rw [if_pos c, if_neg (by simpa using Int32.not_lt.mpr c)]; exact nI_add _ 0
    · rw [if_neg c, if_pos (by simpa using Int32.not_le.mp c)]; exact nI_add _ 1
theorem so_t (e : z 4 0 = nI n) (hn : n ≤ 20) : ∀ t, t ≤ n → sgO z t = nI (c1N (fun y => decide (midG (z 5) n < y)) (z 5) (t - 1))
  | 0, _ => rfl
  | 1, ht => rfl
  | t + 2, ht => by
    have en : tn (z 4 0) = n := by rw [e]; exact nI_clamp (by omega)
    show sgO z (t + 1) + _ = nI (c1N _ (z 5) t + _)
    rw [so_t e hn (t + 1) (by omega), (sw_n e hn (t := t + 1) (by omega)).1, md_0, en, if_neg (k_le0 (j := t + 1) (by omega) (by omega))]
    by_cases c : z 5 (t + 1) ≤ midG (z 5) n
    · rw [if_pos c, if_neg (by simpa using Int32.not_lt.mpr c)]; exact nI_add _ 0
    · rw [if_neg c, if_pos (by simpa using Int32.not_le.mp c)]; exact nI_add _ 1
/-- the class's own reason is the law's -/
theorem sw_3 (e : z 4 0 = nI n) (hn : n ≤ 20) (ht : t < n) : qSwing (nI t) 3 z = rsF z t := by
  have en : tn (z 4 0) = n := by rw [e]; exact nI_clamp (by omega)
  have et : tn (nI t) = t := nI_clamp (by omega)
  refine (an_k0 (sw_k e hn ht (by decide) (by decide))).trans ?_
  show s_X8_reason_r (nI t) (z 3 2) (z 4) (z 5) (z 6) (z 7) = _
  rw [rs_odd e hn ht]
  unfold s_X8_reason_r s_X8_reasonBeside_r oddG
  (try dsimp only)
  rw [en, et]
  by_cases c : t = 0
  · subst c; rfl
  · have q1 : ¬ nI t < 1 := fun q => absurd ((nI_ltI (a := t) (b := 1) (by omega) (by decide)).mp q) (by omega)
    have q2 : nI t < 20 := (nI_ltI (a := t) (b := 20) (by omega) (by decide)).mpr (by omega)
    rw [if_neg q1, if_pos q2, if_neg c, show vC 0 (z 5) (z 6) (z 7) = z 5 from if_pos rfl, show vC 1 (z 5) (z 6) (z 7) = sC (z 6) (z 7) from if_neg (by decide)]
    rfl
theorem fx_sound (h : GZ B z) (hB : B ≤ 1000000) : FX_sound z := by
  obtain ⟨h0, hP, hC, ⟨g6, -, -, n, hn, e, hs, -⟩, ⟨n9, hn9, e9, -⟩, a1, a2, a3, a4, a5, a6⟩ := h
  have en : tn (z 4 0) = n := by rw [e]; exact nI_clamp (by omega)
  have et := cnt_t hn e
  have e0 : (0 : Int32).toInt = 0 := rfl
  have e2 : (2 : Int32).toInt = 2 := rfl
  have eN : (-99999 : Int32).toInt = -99999 := rfl
  have mid : ∀ val : Nat → Int32, (∀ j, 1 ≤ j → j < n → 0 ≤ (val j).toInt) → (if 2 ≤ nI n then (0 : Int32) else 1) = (if midG val n = -99999 then (1 : Int32) else 0) := by
    intro val hv
    by_cases c : n < 2
    · have e1 : midG val n = -99999 := by unfold midG; rw [if_pos c]
      have q2 : ¬ (2 : Int32) ≤ nI n := fun q => absurd ((nI_leI (a := 2) (b := n) (by decide) (by omega)).mp q) (by omega)
      rw [e1, if_pos rfl, if_neg q2]
    · have := mid_ge c hv
      have q2 : (2 : Int32) ≤ nI n := (nI_leI (a := 2) (b := n) (by decide) (by omega)).mpr (by omega)
      have q3 : ¬ midG val n = -99999 := fun q => by rw [q, eN] at this; omega
      rw [if_pos q2, if_neg q3]
  have sp0 : ∀ j, j < n → (z 6 j - z 7 j).toInt = (z 6 j).toInt - (z 7 j).toInt := fun j hj => by
    obtain ⟨-, q, -⟩ := hs j hj
    exact t_sub (by omega) (by omega)
  have hcl : (z 0 0).toInt * (z 1 4).toInt ≤ 1000000 * 99 := Int.mul_le_mul (by omega) hP.2.2.2.2.1.2 (by have := hP.2.2.2.2.1.1; omega) (by decide)
  have hcl0 : 0 ≤ (z 0 0).toInt * (z 1 4).toInt := Int.mul_nonneg h0.1 (by have := hP.2.2.2.2.1.1; omega)
  unfold FX_sound
  rw [ab_16, ab_13, ab_18, en, e, md_0, md_1, en]
  have hle : ∀ t : Nat, t ≤ n → (nI n ≤ nI t ↔ n ≤ t) := fun t ht => nI_leI (by omega) (by omega)
  refine ⟨mid _ (fun j _ hj => by have := (hs j hj).1.1; omega), mid _ (fun j _ hj => ?_), fun t ht c => ?_, fun t ht c => ?_, ?_, ?_, ?_, a6, ?_, ?_, ?_, ?_, ?_, ?_, ?_, ?_, ?_, fun t ht hlt => ?_, fun t ht hlt => ?_, fun _ _ _ => trivial, fun t ht hlt => ?_, fun t ht hlt => ?_, fun t ht hlt => ?_, fun t ht hlt => ?_, fun t ht hlt => ?_, fun t ht hlt c => ?_, fun _ _ _ _ _ => trivial⟩
  · show 0 ≤ (z 6 j - z 7 j).toInt
    rw [sp0 j hj]
    have := (hs j hj).2.1.2.1
    omega
  · have := (hle t ht).mp c; omega
  · have := mt (hle t ht).mpr c; omega
  · rw [ab_17]
    unfold s_X7_goodCount_r
    rw [en]
    exact (sg_t e hn n (Nat.le_refl _)).symm
  · rw [su_t e hn n (Nat.le_refl _)]
    intro q
    have hu := mid_under (val := z 5) (n := n)
    have q2 : nI n < nI 2 * nI (c1N (fun y => decide (y < midG (z 5) n)) (z 5) (n - 1)) := q
    rw [pk_mul] at q2
    have := (nI_ltI (by omega) (by omega)).mp q2
    omega
  · rw [so_t e hn n (Nat.le_refl _)]
    intro q
    have hu := mid_over (val := z 5) (n := n)
    have q2 : nI n < nI 2 * nI (c1N (fun y => decide (midG (z 5) n < y)) (z 5) (n - 1)) := q
    rw [pk_mul] at q2
    have := (nI_ltI (by omega) (by omega)).mp q2
    omega
  · show ¬ z 0 0 * z 1 4 < z 11 2
    intro q
    have q := t_lt.mp q
    rw [t_mul (by omega) (by omega)] at q
    omega
  · show ¬ z 0 0 < z 11 3
    intro q
    have q := t_lt.mp q
    omega
  · rw [e9]
    intro q
    have q := t_lt.mp q
    rw [t_n (by omega)] at q
    omega
  · rw [e9]
    intro q
    exact absurd ((nI_ltI (a := 8) (b := n9) (by decide) (by omega)).mp q) (by omega)
  · show ¬ 9999 < sizeF (z 3 8)
    intro q
    have q := t_lt.mp q
    have h8 := hC.2.2.2.2.2.1
    have e9 : (9999 : Int32).toInt = 9999 := rfl
    unfold rg at h8
    rw [size_t (by omega), e9] at q
    split at q <;> omega
  · show ¬ z 11 1 < 0
    intro q
    have q := t_lt.mp q
    omega
  · show ¬ z 1 4 < z 11 1
    intro q
    have q := t_lt.mp q
    omega
  · show ¬ z 3 6 = 1 → (if z 3 7 = 0 then (0 : Int32) else 1) = 0
    intro c
    rw [if_pos (hC.2.2.2.2.1 c)]
  · show ¬ nI n = 0 → ¬ z 11 4 ≤ nI n - 1
    intro c q
    have hn0 : n ≠ 0 := fun k => c ((nI_z (by omega)).mpr k)
    have q := t_le.mp q
    rw [show nI n - 1 = nI (n - 1) from pk_sub (a := n) (b := 1) (by omega), t_n (by omega)] at q
    have := a5 (Or.inl (by omega))
    omega
  · rw [sw_3 e hn hlt]
    unfold rsF
    rw [md_0, md_1, en]
  · rw [(sw_n e hn hlt).1]
    intro q
    have q := t_le.mp q
    have := (hs t hlt).1.1
    omega
  · rw [sp_v e hn hlt]
    intro q
    have q := t_lt.mp q
    rw [sp0 t hlt] at q
    have := (hs t hlt).2.1.2.1
    omega
  · rw [(sw_n e hn hlt).2.2.2]
    intro q
    have q := t_lt.mp q
    have := (hs t hlt).2.2.1.2
    omega
  · simp only [sgG]
    unfold rsF
    rw [md_0, md_1, en]
  · simp only [sgU]
    rw [md_0, en]
  · simp only [sgO]
    rw [md_0, en]
  · have ht0 : t ≠ 0 := fun k => c ((nI_z (by omega)).mpr k)
    rw [(sw_n e hn hlt).2.2.2, (sw_n e hn hlt).1, show nI t - 1 = nI (t - 1) from pk_sub (a := t) (b := 1) (by omega), (sw_n e hn (t := t - 1) (by omega)).2.2.2]
    obtain ⟨q1, -, q3, q4⟩ := hs t hlt
    obtain ⟨-, -, q5, -⟩ := hs (t - 1) (by omega)
    have := q4 (by omega)
    intro q
    have q := t_lt.mp q
    rw [t_add (by omega) (by omega)] at q
    omega
theorem fx_alike (h : GZ B z) : FX_alike z := by
  obtain ⟨n, hn, e, -⟩ := h.2.2.2.1.2.2.2
  refine ⟨fun t ht c => ?_, rfl, rfl, fun _ _ _ => rfl, fun _ _ _ => rfl, fun _ _ _ _ => rfl⟩
  rw [ab_16, e] at c
  have c2 : ¬ nI 5 * nI n ≤ nI t := c
  rw [pk_mul] at c2
  have := mt (nI_leI (by omega) (by omega)).mpr c2
  omega
end SOU

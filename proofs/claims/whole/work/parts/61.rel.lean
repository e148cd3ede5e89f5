section TEXT1
variable {x X fc fR fr : Nat → Int32} {L p : Nat} {a b lo hi : Int32}
/-- where both stand in the text -/
def tpR (L p : Nat) (x X : Nat → Int32) : Prop := x 1 = nI L ∧ x 2 = nI p ∧ X 2 = nI L ∧ X 3 = nI p ∧ p ≤ L
/-- the same text on both sides -/
def tpB (L : Nat) (fc fR : Nat → Int32) : Prop := L ≤ 60 ∧ ∀ j, j < L → fc j = fR j ∧ bI (fR j) 0 255
def dR (X ft : Nat → Int32) : Int32 := if (X 2) ≤ (X 3) then (-99999) else ((ft (tn (X 3))) - 48)
theorem nlt0 {n : Nat} (h : n < 2 ^ 31) : ¬ nI n < 0 := fun q => absurd ((nI_ltI (b := 0) h (by decide)).mp q) (by omega)
theorem dig_rel (hb : tpB L fc fR) (h : tpR L p x X) : (s_X9_digitHere_r x fc = -1 ∧ s_X12_in_r (dR X fR).toInt64 0 9 = 0) ∨ (∃ d, d ≤ 9 ∧ p < L ∧ s_X9_digitHere_r x fc = nI d ∧ dR X fR = nI d ∧ ¬ s_X12_in_r (dR X fR).toInt64 0 9 = 0) := by
  obtain ⟨h1, h2, h3, h4, h5⟩ := h
  obtain ⟨b1, b2⟩ := hb
  have t0 : (0 : Int64).toInt = 0 := rfl
  have t9 : (9 : Int64).toInt = 9 := rfl
  unfold s_X9_digitHere_r dR
  rw [h1, h2, h3, h4, if_neg (nlt0 (by omega))]
  by_cases c : L ≤ p
  · have cc : nI L ≤ nI p := (nI_leI (by omega) (by omega)).mpr c
    rw [if_pos cc, if_pos cc]
    exact Or.inl ⟨rfl, by decide⟩
  · have cc : ¬ nI L ≤ nI p := mt (nI_leI (by omega) (by omega)).mp c
    rw [if_neg cc, if_neg cc, if_pos (show nI p < 60 from (nI_ltI (b := 60) (by omega) (by decide)).mpr (by omega)), tn_of (k := p) rfl (by omega)]
    obtain ⟨e, k1, k2⟩ := b2 p (by omega)
    rw [e]
    generalize fR p = v at k1 k2
    have i0 : (0 : Int32).toInt = 0 := rfl
    have i48 : (48 : Int32).toInt = 48 := rfl
    have i57 : (57 : Int32).toInt = 57 := rfl
    have i255 : (255 : Int32).toInt = 255 := rfl
    have k1 := Int32.le_iff_toInt_le.mp k1
    have k2 := Int32.le_iff_toInt_le.mp k2
    have es : (v - 48).toInt = v.toInt - 48 := by
      rw [Int32.toInt_sub, i48]
      exact Int.bmod_eq_of_le_mul_two (by omega) (by omega)
    by_cases c1 : v < 48
    · have k3 := Int32.lt_iff_toInt_lt.mp c1
      rw [if_pos c1]
      exact Or.inl ⟨rfl, in01 (by rw [i64_of]; omega)⟩
    · have k3 := mt Int32.lt_iff_toInt_lt.mpr c1
      rw [if_neg c1]
      by_cases c2 : 57 < v
      · have k4 := Int32.lt_iff_toInt_lt.mp c2
        rw [if_pos c2]
        exact Or.inl ⟨rfl, in01 (by rw [i64_of]; omega)⟩
      · have k4 := mt Int32.lt_iff_toInt_lt.mpr c2
        rw [if_neg c2]
        obtain ⟨d, hd, ed⟩ := vp_in_of (x := v - 48) (n := 10) (vp_in_iff.mpr ⟨by omega, by omega⟩) (by decide)
        exact Or.inr ⟨d, by omega, by omega, ed, ed, in10 (by rw [i64_of]; omega)⟩
/-- a number of k digits more, as the class reads it: the number, the place -/
def cuR (lo hi : Int32) (ft : Nat → Int32) : Nat → Int32 → (Nat → Int32) → Int32
  | 0, t, _ => t
  | k + 1, t, x => if s_X9_digitHere_r x ft = -1 then -1 else if hi < t + s_X9_digitHere_r x ft * nI (10 ^ k) then -1 else if lo ≤ t + s_X9_digitHere_r x ft * nI (10 ^ k) + nI (10 ^ k) - 1 then cuR lo hi ft k (t + s_X9_digitHere_r x ft * nI (10 ^ k)) (upd x 2 (x 2 + 1)) else -1
def cuW (lo hi : Int32) (ft : Nat → Int32) : Nat → Int32 → (Nat → Int32) → Nat → Int32
  | 0, _, x => x
  | k + 1, t, x => if s_X9_digitHere_r x ft = -1 then x else if hi < t + s_X9_digitHere_r x ft * nI (10 ^ k) then x else if lo ≤ t + s_X9_digitHere_r x ft * nI (10 ^ k) + nI (10 ^ k) - 1 then cuW lo hi ft k (t + s_X9_digitHere_r x ft * nI (10 ^ k)) (upd x 2 (x 2 + 1)) else x
/-- the same, as the reference reads it -/
def ruR (lo hi : Int32) (ft : Nat → Int32) : Nat → Int32 → (Nat → Int32) → Int32
  | 0, _, _ => 1
  | k + 1, t, X => if s_X12_in_r (dR X ft).toInt64 0 9 = 0 then 0 else if hi < t + dR X ft * nI (10 ^ k) then 0 else if lo ≤ t + dR X ft * nI (10 ^ k) + nI (10 ^ k) - 1 then ruR lo hi ft k (t + dR X ft * nI (10 ^ k)) (upd X 3 (X 3 + 1)) else 0
def ruW (lo hi : Int32) (ft : Nat → Int32) : Nat → Int32 → (Nat → Int32) → Nat → Int32
  | 0, _, X => X
  | k + 1, t, X => if s_X12_in_r (dR X ft).toInt64 0 9 = 0 then X else if hi < t + dR X ft * nI (10 ^ k) then X else if lo ≤ t + dR X ft * nI (10 ^ k) + nI (10 ^ k) - 1 then ruW lo hi ft k (t + dR X ft * nI (10 ^ k)) (upd X 3 (X 3 + 1)) else X
def ruF (lo hi : Int32) (ft fr : Nat → Int32) (pl : Nat) : Nat → Int32 → (Nat → Int32) → Nat → Int32
  | 0, t, _ => upd fr pl t
  | k + 1, t, X => if s_X12_in_r (dR X ft).toInt64 0 9 = 0 then fr else if hi < t + dR X ft * nI (10 ^ k) then fr else if lo ≤ t + dR X ft * nI (10 ^ k) + nI (10 ^ k) - 1 then ruF lo hi ft fr pl k (t + dR X ft * nI (10 ^ k)) (upd X 3 (X 3 + 1)) else fr
theorem nu1 : s_X9_number_1_r lo hi x fc = cuR lo hi fc 1 0 x ∧ s_X9_number_1_w0 lo hi x fc = cuW lo hi fc 1 0 x := ⟨rfl, rfl⟩
theorem nu2 : s_X9_number_2_r lo hi x fc = cuR lo hi fc 2 0 x ∧ s_X9_number_2_w0 lo hi x fc = cuW lo hi fc 2 0 x := ⟨rfl, rfl⟩
theorem nu3 : s_X9_number_3_r lo hi x fc = cuR lo hi fc 3 0 x ∧ s_X9_number_3_w0 lo hi x fc = cuW lo hi fc 3 0 x := ⟨rfl, rfl⟩
theorem pu1 {pl : Nat} : s_X12_put_1_r lo hi X fR = ruR lo hi fR 1 0 X ∧ s_X12_put_1_w0 lo hi X fR = ruW lo hi fR 1 0 X ∧ s_X12_put_1_w2 lo hi X fR fr pl = ruF lo hi fR fr pl 1 0 X := ⟨rfl, rfl, rfl⟩
theorem pu2 {pl : Nat} : s_X12_put_2_r lo hi X fR = ruR lo hi fR 2 0 X ∧ s_X12_put_2_w0 lo hi X fR = ruW lo hi fR 2 0 X ∧ s_X12_put_2_w2 lo hi X fR fr pl = ruF lo hi fR fr pl 2 0 X := ⟨rfl, rfl, rfl⟩
theorem pu3 {pl : Nat} : s_X12_put_3_r lo hi X fR = ruR lo hi fR 3 0 X ∧ s_X12_put_3_w0 lo hi X fR = ruW lo hi fR 3 0 X ∧ s_X12_put_3_w2 lo hi X fR fr pl = ruF lo hi fR fr pl 3 0 X := ⟨rfl, rfl, rfl⟩
/-- what comes of a number on both sides -/
def cuQ (lo hi : Int32) (L p pl : Nat) (x X fr : Nat → Int32) (r : Int32) (w : Nat → Int32) (s : Int32) (v g : Nat → Int32) : Prop := (∃ q, p ≤ q ∧ tpR L q w v) ∧ (∀ i, i ≠ 2 → w i = x i) ∧ (∀ i, i ≠ 3 → v i = X i) ∧ ((r = -1 ∧ s = 0) ∨ ∃ R, R < 5000 ∧ r = nI R ∧ s = 1 ∧ g = upd fr pl (nI R) ∧ lo ≤ nI R ∧ nI R ≤ hi)
theorem p10 {k : Nat} (h : k + 1 ≤ 3) : 10 ^ k ≤ 100 ∧ 1 ≤ 10 ^ k := by
  rcases (show k = 0 ∨ k = 1 ∨ k = 2 by omega) with rfl | rfl | rfl <;> decide
theorem cu_rel (hb : tpB L fc fR) {pl : Nat} : ∀ (k T p : Nat) (t : Int32) (x X : Nat → Int32), k ≤ 3 → t = nI T → T + 1000 * k ≤ 4000 → tpR L p x X → (k = 0 → lo ≤ t ∧ t ≤ hi) → cuQ lo hi L p pl x X fr (cuR lo hi fc k t x) (cuW lo hi fc k t x) (ruR lo hi fR k t X) (ruW lo hi fR k t X) (ruF lo hi fR fr pl k t X)
  | 0, T, p, t, x, X, _, ht, hT, h, hk => by
    obtain ⟨k1, k2⟩ := hk rfl
    refine ⟨⟨p, Nat.le_refl _, h⟩, fun _ _ => rfl, fun _ _ => rfl, Or.inr ⟨T, by omega, ht, rfl, ?_, by rw [← ht]; exact k1, by rw [← ht]; exact k2⟩⟩
    rw [← ht]
    rfl
  | k + 1, T, p, t, x, X, hk3, ht, hT, h, _ => by
    rcases dig_rel hb h with ⟨e1, e2⟩ | ⟨d, hd, hpL, e1, e2, e3⟩
    · simp only [cuR, cuW, ruR, ruW, ruF, if_pos e1, if_pos e2]
      exact ⟨⟨p, Nat.le_refl _, h⟩, fun _ _ => rfl, fun _ _ => rfl, Or.inl ⟨rfl, rfl⟩⟩
    · obtain ⟨u1, u2⟩ := p10 hk3
      have hdu : d * 10 ^ k ≤ 900 := Nat.le_trans (Nat.mul_le_mul hd u1) (by decide)
      have e4 : t + nI d * nI (10 ^ k) = nI (T + d * 10 ^ k) := by rw [ht, pk_mul, nI_add]
      have e5 : nI (T + d * 10 ^ k) + nI (10 ^ k) - 1 = nI (T + d * 10 ^ k + 10 ^ k - 1) := by
        rw [nI_add]
        exact sub1_ix rfl (by omega)
      have n1 : ¬ nI d = -1 := fun q => by
        have q2 := congrArg Int32.toInt q
        rw [nI_toInt (by omega)] at q2
        have q3 : (-1 : Int32).toInt = -1 := rfl
        omega
      rw [e2] at e3
      have c3 : ∀ {α : Type} {u v : α}, (if s_X12_in_r (nI d).toInt64 0 9 = 0 then u else v) = v := fun {α u v} => if_neg e3
      have c4 : ∀ {α : Type} {u v : α}, (if nI d = -1 then u else v) = v := fun {α u v} => if_neg n1
      by_cases c1 : hi < nI (T + d * 10 ^ k)
      · have c5 : ∀ {α : Type} {u v : α}, (if hi < nI (T + d * 10 ^ k) then u else v) = u := fun {α u v} => if_pos c1
        simp only [cuR, cuW, ruR, ruW, ruF, e1, e2, c3, c4, e4, c5]
        exact ⟨⟨p, Nat.le_refl _, h⟩, fun _ _ => rfl, fun _ _ => rfl, Or.inl ⟨rfl, rfl⟩⟩
      · have c5 : ∀ {α : Type} {u v : α}, (if hi < nI (T + d * 10 ^ k) then u else v) = v := fun {α u v} => if_neg c1
        by_cases c2 : lo ≤ nI (T + d * 10 ^ k + 10 ^ k - 1)
        · have c6 : ∀ {α : Type} {u v : α}, (if lo ≤ nI (T + d * 10 ^ k + 10 ^ k - 1) then u else v) = u := fun {α u v} => if_pos c2
          simp only [cuR, cuW, ruR, ruW, ruF, e1, e2, c3, c4, e4, c5, e5, c6]
          obtain ⟨h1, h2, h3, h4, h5⟩ := h
          obtain ⟨⟨q, hq1, hq2⟩, g1, g2, g3⟩ := cu_rel hb (pl := pl) k (T + d * 10 ^ k) (p + 1) (nI (T + d * 10 ^ k)) (upd x 2 (x 2 + 1)) (upd X 3 (X 3 + 1)) (by omega) rfl (by omega) ⟨h1, by
            show x 2 + 1 = _
            rw [h2]
            exact nI_add p 1, h3, by
            show X 3 + 1 = _
            rw [h4]
            exact nI_add p 1, by omega⟩ (fun k0 => by
              subst k0
              refine ⟨?_, Int32.not_lt.mp c1⟩
              have e9 : T + d * 10 ^ 0 + 10 ^ 0 - 1 = T + d * 10 ^ 0 := by omega
              rw [e9] at c2
              exact c2)
          exact ⟨⟨q, by omega, hq2⟩, fun i hi => (g1 i hi).trans (upd_ne hi), fun i hi => (g2 i hi).trans (upd_ne hi), g3⟩
        · have c6 : ∀ {α : Type} {u v : α}, (if lo ≤ nI (T + d * 10 ^ k + 10 ^ k - 1) then u else v) = v := fun {α u v} => if_neg c2
          simp only [cuR, cuW, ruR, ruW, ruF, e1, e2, c3, c4, e4, c5, e5, c6]
          exact ⟨⟨p, Nat.le_refl _, h⟩, fun _ _ => rfl, fun _ _ => rfl, Or.inl ⟨rfl, rfl⟩⟩
theorem her_eq (hb : tpB L fc fR) (h : tpR L p x X) : (if (X 2) ≤ (X 3) then (0 : Int32) else (if (fR (tn (X 3))) = a then 1 else 0)) = s_X9_isHere_r a x fc := by
  obtain ⟨h1, h2, h3, h4, h5⟩ := h
  obtain ⟨b1, b2⟩ := hb
  unfold s_X9_isHere_r
  try dsimp only
  rw [h1, h2, h3, h4, if_neg (nlt0 (by omega))]
  by_cases c : L ≤ p
  · have cc : nI L ≤ nI p := (nI_leI (by omega) (by omega)).mpr c
    rw [if_pos cc, if_pos cc]
  · have cc : ¬ nI L ≤ nI p := mt (nI_leI (by omega) (by omega)).mp c
    rw [if_neg cc, if_neg cc, if_neg (show ¬ (60 : Int32) ≤ nI p from fun q => absurd ((nI_leI (a := 60) (by decide) (by omega)).mp q) (by omega)), tn_of (k := p) rfl (by omega), (b2 p (by omega)).1]
theorem eat_rel (hb : tpB L fc fR) (h : tpR L p x X) : s_X12_eat_r a X fR = s_X9_isHere_r a x fc ∧ (s_X9_isHere_r a x fc = 0 → tpR L p x (s_X12_eat_w0 a X fR)) ∧ (¬ s_X9_isHere_r a x fc = 0 → tpR L (p + 1) (upd x 2 (x 2 + 1)) (s_X12_eat_w0 a X fR)) ∧ ∀ i, i ≠ 3 → s_X12_eat_w0 a X fR i = X i := by
  have e := her_eq (a := a) hb h
  have ew : s_X12_eat_w0 a X fR = upd X 3 (X 3 + (if s_X9_isHere_r a x fc = 0 then 0 else 1)) := by
    unfold s_X12_eat_w0
    try dsimp only
    rw [e]
  obtain ⟨h1, h2, h3, h4, h5⟩ := h
  refine ⟨e, fun c => ?_, fun c => ?_, fun i hi => ?_⟩
  · rw [ew, if_pos c]
    refine ⟨h1, h2, h3, ?_, h5⟩
    show X 3 + 0 = _
    rw [h4]
    exact nI_add p 0
  · have hp : p < L := by
      rcases Nat.lt_or_ge p L with q | q
      · exact q
      · exfalso
        rw [← e, h3, h4, if_pos ((nI_leI (by have := hb.1; omega) (by have := hb.1; omega)).mpr q)] at c
        exact c rfl
    rw [ew, if_neg c]
    refine ⟨h1, ?_, h3, ?_, hp⟩
    · show x 2 + 1 = _
      rw [h2]
      exact nI_add p 1
    · show X 3 + 1 = _
      rw [h4]
      exact nI_add p 1
  · rw [ew]
    exact upd_ne hi
end TEXT1

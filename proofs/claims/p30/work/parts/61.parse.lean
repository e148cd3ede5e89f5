/-! ===== how a text is read ===== -/
section PAR
variable {x ft : Nat → Int32} {n i : Nat} {c : Int32}
/-- a reader at place i of n letters -/
def at9 (x : Nat → Int32) (n i : Nat) : Prop := x 1 = nI n ∧ x 2 = nI i ∧ n ≤ 60 ∧ i ≤ 60
theorem at9.go (h : at9 x n i) (hi : i < n) : at9 (upd x 2 (x 2 + 1)) n (i + 1) := ⟨(upd_ne (by decide)).trans h.1, by rw [upd_at, h.2.1]; exact nI_add i 1, h.2.2.1, by have := h.2.2.1; omega⟩
theorem at9.up {k : Nat} {v : Int32} (h : at9 x n i) (h1 : k ≠ 1) (h2 : k ≠ 2) : at9 (upd x k v) n i := ⟨(upd_ne (fun q => h1 q.symm)).trans h.1, (upd_ne (fun q => h2 q.symm)).trans h.2.1, h.2.2⟩
theorem at9.to {k : Nat} (h : at9 x n i) (hk : k ≤ n) : at9 (upd x 2 (nI k)) n k := ⟨(upd_ne (by decide)).trans h.1, upd_at _ _ _, h.2.2.1, by have := h.2.2.1; omega⟩
theorem m1_n {k : Nat} (h : k < 1000000) : ¬ nI k = -1 := fun q => by
  have := congrArg Int32.toInt q
  rw [t_n (by omega)] at this
  have e0 : (-1 : Int32).toInt = -1 := rfl
  omega
theorem one_n : ¬ (1 : Int32) = 0 := by decide
theorem le_n {a b : Nat} (ha : a < 1000000) (hb : b < 1000000) (h : a ≤ b) : nI a ≤ nI b := (nI_leI (by omega) (by omega)).mpr h
theorem nle_n {a b : Nat} (ha : a < 1000000) (hb : b < 1000000) (h : b < a) : ¬ nI a ≤ nI b := fun q => absurd ((nI_leI (by omega) (by omega)).mp q) (by omega)
theorem lt_n {a b : Nat} (ha : a < 1000000) (hb : b < 1000000) (h : a < b) : nI a < nI b := (nI_ltI (by omega) (by omega)).mpr h
theorem nlt_n {a b : Nat} (ha : a < 1000000) (hb : b < 1000000) (h : b ≤ a) : ¬ nI a < nI b := fun q => absurd ((nI_ltI (by omega) (by omega)).mp q) (by omega)
theorem here_1 (h : at9 x n i) (hi : i < n) (hc : ft i = c) : s_X9_isHere_r c x ft = 1 := by
  obtain ⟨h1, h2, h3, -⟩ := h
  have et : tn (x 2) = i := by rw [h2]; exact nI_clamp (by omega)
  have q0 : ¬ nI i < 0 := k_lt0 (j := i) (by omega)
  have q1 : ¬ nI n ≤ nI i := nle_n (by omega) (by omega) hi
  have q2 : ¬ 60 ≤ nI i := nle_n (a := 60) (by omega) (by omega) (by omega)
  unfold s_X9_isHere_r
  (try dsimp only)
  rw [et, h1, h2, if_neg q0, if_neg q1, if_neg q2, if_pos hc]
theorem here_0 (h : at9 x n i) (hc : i < n → ¬ ft i = c) : s_X9_isHere_r c x ft = 0 := by
  obtain ⟨h1, h2, h3, h4⟩ := h
  have et : tn (x 2) = i := by rw [h2]; exact nI_clamp (by omega)
  have q0 : ¬ nI i < 0 := k_lt0 (j := i) (by omega)
  unfold s_X9_isHere_r
  (try dsimp only)
  by_cases hi : i < n
  · have q1 : ¬ nI n ≤ nI i := nle_n (by omega) (by omega) hi
    have q2 : ¬ 60 ≤ nI i := nle_n (a := 60) (by omega) (by omega) (by omega)
    rw [et, h1, h2, if_neg q0, if_neg q1, if_neg q2, if_neg (hc hi)]
  · have q1 : nI n ≤ nI i := le_n (by omega) (by omega) (by omega)
    rw [et, h1, h2, if_neg q0, if_pos q1]
theorem dig_y (h : at9 x n i) (hi : i < n) {d : Nat} (hd : d < 10) (hc : ft i = nI (48 + d)) : s_X9_digitHere_r x ft = nI d := by
  obtain ⟨h1, h2, h3, -⟩ := h
  have et : tn (x 2) = i := by rw [h2]; exact nI_clamp (by omega)
  have q0 : ¬ nI i < 0 := k_lt0 (j := i) (by omega)
  have q1 : ¬ nI n ≤ nI i := nle_n (by omega) (by omega) hi
  have q2 : nI i < 60 := lt_n (b := 60) (by omega) (by omega) (by omega)
  have q3 : ¬ nI (48 + d) < 48 := nlt_n (b := 48) (by omega) (by omega) (by omega)
  have q4 : ¬ 57 < nI (48 + d) := nlt_n (a := 57) (by omega) (by omega) (by omega)
  unfold s_X9_digitHere_r
  (try dsimp only)
  rw [et, h1, h2, hc, if_neg q0, if_neg q1, if_pos q2, if_neg q3, if_neg q4]
  exact (pk_sub (a := 48 + d) (b := 48) (by omega)).trans (congrArg nI (by omega))
theorem dig_n (h : at9 x n i) (hi : n ≤ i) : s_X9_digitHere_r x ft = -1 := by
  obtain ⟨h1, h2, h3, h4⟩ := h
  have q0 : ¬ nI i < 0 := k_lt0 (j := i) (by omega)
  have q1 : nI n ≤ nI i := le_n (by omega) (by omega) hi
  unfold s_X9_digitHere_r
  (try dsimp only)
  rw [h1, h2, if_neg q0, if_pos q1]
theorem s0m (k a b : Nat) (e : a * k = b) : (0 : Int32) + nI a * nI k = nI b := by
  rw [pk_mul, show (0 : Int32) = nI 0 from rfl, nI_add, e, Nat.zero_add]
theorem sam (p k a b : Nat) (e : p + a * k = b) : nI p + nI a * nI k = nI b := by
  rw [pk_mul, nI_add, e]
theorem spm (p k b : Nat) (e : p + k - 1 = b) (h : 1 ≤ p + k) : nI p + nI k - 1 = nI b := by
  rw [nI_add]
  exact (pk_sub (a := p + k) (b := 1) h).trans (congrArg nI e)
theorem st2 (h : at9 x n i) : upd (upd x 2 (x 2 + 1)) 2 (x 2 + 1 + 1) = upd x 2 (nI (i + 2)) := by
  rw [upd_twice, h.2.1]
  exact congrArg (upd x 2) ((congrArg (· + (1 : Int32)) (nI_add i 1)).trans (nI_add (i + 1) 1))
theorem st1 (h : at9 x n i) : upd x 2 (x 2 + 1) = upd x 2 (nI (i + 1)) := by
  rw [h.2.1]
  exact congrArg (upd x 2) (nI_add i 1)
section NUMS
variable {lo hi9 : Nat} {L9 H9 : Int32}
theorem nr1_y (eL : L9 = nI lo) (eH : H9 = nI hi9) (h : at9 x n i) (hi : i < n) {a : Nat} (ha : a < 10) (h1 : ft i = nI (48 + a)) (hlo : lo ≤ a) (hhi : a ≤ hi9) (hh : hi9 < 1000) : s_X9_number_1_r L9 H9 x ft = nI a ∧ s_X9_number_1_w0 L9 H9 x ft = upd x 2 (nI (i + 1)) := by
  have d1 := dig_y h hi ha h1
  have e1 : (0 : Int32) + nI a * 1 = nI a := s0m 1 a a (by omega)
  have e3 : nI a + 1 - 1 = nI a := spm a 1 a (by omega) (by omega)
  have q1 : ¬ nI hi9 < nI a := nlt_n (by omega) (by omega) hhi
  have q2 : nI lo ≤ nI a := le_n (by omega) (by omega) hlo
  rw [eL, eH]
  constructor
  · unfold s_X9_number_1_r
    rw [d1, e1, e3, if_neg (m1_n (k := a) (by omega)), if_neg q1, if_pos q2]
  · unfold s_X9_number_1_w0
    rw [d1, e1, e3, if_neg (m1_n (k := a) (by omega)), if_neg q1, if_pos q2]
    exact st1 h
theorem nr2_y (eL : L9 = nI lo) (eH : H9 = nI hi9) (h : at9 x n i) (hi : i + 1 < n) {v : Nat} (hv : v < 100) (h1 : ft i = nI (48 + v / 10)) (h2 : ft (i + 1) = nI (48 + v % 10)) (hlo : lo ≤ v) (hhi : v ≤ hi9) (hh : hi9 < 1000) : s_X9_number_2_r L9 H9 x ft = nI v ∧ s_X9_number_2_w0 L9 H9 x ft = upd x 2 (nI (i + 2)) := by
  have d1 := dig_y h (by omega) (by omega) h1
  have d2 := dig_y (h.go (by omega)) hi (by omega) h2
  have e1 : (0 : Int32) + nI (v / 10) * 10 = nI (10 * (v / 10)) := s0m 10 _ _ (by omega)
  have e2 : nI (10 * (v / 10)) + nI (v % 10) * 1 = nI v := sam _ 1 _ _ (by omega)
  have e3 : nI (10 * (v / 10)) + 10 - 1 = nI (10 * (v / 10) + 9) := spm _ 10 _ (by omega) (by omega)
  have e4 : nI v + 1 - 1 = nI v := spm _ 1 _ (by omega) (by omega)
  have q1 : ¬ nI hi9 < nI (10 * (v / 10)) := nlt_n (by omega) (by omega) (by omega)
  have q2 : nI lo ≤ nI (10 * (v / 10) + 9) := le_n (by omega) (by omega) (by omega)
  have q3 : ¬ nI hi9 < nI v := nlt_n (by omega) (by omega) hhi
  have q4 : nI lo ≤ nI v := le_n (by omega) (by omega) hlo
  rw [eL, eH]
  constructor
  · unfold s_X9_number_2_r
    rw [d1, d2, e1, e2, e3, e4, if_neg (m1_n (k := v / 10) (by omega)), if_neg q1, if_pos q2, if_neg (m1_n (k := v % 10) (by omega)), if_neg q3, if_pos q4]
  · unfold s_X9_number_2_w0
    rw [d1, d2, e1, e2, e3, e4, if_neg (m1_n (k := v / 10) (by omega)), if_neg q1, if_pos q2, if_neg (m1_n (k := v % 10) (by omega)), if_neg q3, if_pos q4]
    exact st2 h
theorem nr3_y (eL : L9 = nI lo) (eH : H9 = nI hi9) (h : at9 x n i) (hi : i + 2 < n) {v : Nat} (hv : v < 1000) (h1 : ft i = nI (48 + v / 100)) (h2 : ft (i + 1) = nI (48 + v % 100 / 10)) (h3 : ft (i + 2) = nI (48 + v % 100 % 10)) (hlo : lo ≤ v) (hhi : v ≤ hi9) (hh : hi9 < 1000) : s_X9_number_3_r L9 H9 x ft = nI v ∧ s_X9_number_3_w0 L9 H9 x ft = upd x 2 (nI (i + 3)) := by
  have d1 := dig_y h (by omega) (by omega) h1
  have d2 := dig_y (h.go (by omega)) (by omega) (by omega) h2
  have d3 : s_X9_digitHere_r (upd (upd x 2 (x 2 + 1)) 2 (x 2 + 1 + 1)) ft = nI (v % 100 % 10) := by
    rw [st2 h]
    exact dig_y (h.to (k := i + 2) (by omega)) hi (by omega) h3
  have e1 : (0 : Int32) + nI (v / 100) * 100 = nI (100 * (v / 100)) := s0m 100 _ _ (by omega)
  have e2 : nI (100 * (v / 100)) + nI (v % 100 / 10) * 10 = nI (100 * (v / 100) + 10 * (v % 100 / 10)) := sam _ 10 _ _ (by omega)
  have e3 : nI (100 * (v / 100) + 10 * (v % 100 / 10)) + nI (v % 100 % 10) * 1 = nI v := sam _ 1 _ _ (by omega)
  have e4 : nI (100 * (v / 100)) + 100 - 1 = nI (100 * (v / 100) + 99) := spm _ 100 _ (by omega) (by omega)
  have e5 : nI (100 * (v / 100) + 10 * (v % 100 / 10)) + 10 - 1 = nI (100 * (v / 100) + 10 * (v % 100 / 10) + 9) := spm _ 10 _ (by omega) (by omega)
  have e6 : nI v + 1 - 1 = nI v := spm _ 1 _ (by omega) (by omega)
  have q1 : ¬ nI hi9 < nI (100 * (v / 100)) := nlt_n (by omega) (by omega) (by omega)
  have q2 : nI lo ≤ nI (100 * (v / 100) + 99) := le_n (by omega) (by omega) (by omega)
  have q3 : ¬ nI hi9 < nI (100 * (v / 100) + 10 * (v % 100 / 10)) := nlt_n (by omega) (by omega) (by omega)
  have q4 : nI lo ≤ nI (100 * (v / 100) + 10 * (v % 100 / 10) + 9) := le_n (by omega) (by omega) (by omega)
  have q5 : ¬ nI hi9 < nI v := nlt_n (by omega) (by omega) hhi
  have q6 : nI lo ≤ nI v := le_n (by omega) (by omega) hlo
  rw [eL, eH]
  constructor
  · unfold s_X9_number_3_r
    rw [d1, d2, d3, e1, e2, e3, e4, e5, e6, if_neg (m1_n (k := v / 100) (by omega)), if_neg q1, if_pos q2, if_neg (m1_n (k := v % 100 / 10) (by omega)), if_neg q3, if_pos q4, if_neg (m1_n (k := v % 100 % 10) (by omega)), if_neg q5, if_pos q6]
  · unfold s_X9_number_3_w0
    rw [d1, d2, d3, e1, e2, e3, e4, e5, e6, if_neg (m1_n (k := v / 100) (by omega)), if_neg q1, if_pos q2, if_neg (m1_n (k := v % 100 / 10) (by omega)), if_neg q3, if_pos q4, if_neg (m1_n (k := v % 100 % 10) (by omega)), if_neg q5, if_pos q6]
    rw [upd_twice, upd_twice, h.2.1]
    exact congrArg (upd x 2) ((congrArg (· + (1 : Int32)) ((congrArg (· + (1 : Int32)) (nI_add i 1)).trans (nI_add (i + 1) 1))).trans (nI_add (i + 2) 1))
theorem nr2_n (h : at9 x n i) (hi : n ≤ i) : s_X9_number_2_r L9 H9 x ft = -1 ∧ s_X9_number_2_w0 L9 H9 x ft = x := by
  have d1 := dig_n (ft := ft) h hi
  constructor
  · unfold s_X9_number_2_r
    rw [d1, if_pos rfl]
  · unfold s_X9_number_2_w0
    rw [d1, if_pos rfl]
theorem nr3_n (h : at9 x n i) (hi : n ≤ i) : s_X9_number_3_r L9 H9 x ft = -1 ∧ s_X9_number_3_w0 L9 H9 x ft = x := by
  have d1 := dig_n (ft := ft) h hi
  constructor
  · unfold s_X9_number_3_r
    rw [d1, if_pos rfl]
  · unfold s_X9_number_3_w0
    rw [d1, if_pos rfl]
theorem lb1_y (eL : L9 = nI lo) (eH : H9 = nI hi9) (h : at9 x n i) (hi : i + 1 < n) (hc : ft i = c) {a : Nat} (ha : a < 10) (h1 : ft (i + 1) = nI (48 + a)) (hlo : lo ≤ a) (hhi : a ≤ hi9) (hh : hi9 < 1000) : s_X9_labelled_1_r c L9 H9 x ft = nI a ∧ s_X9_labelled_1_w0 c L9 H9 x ft = upd x 2 (nI (i + 2)) := by
  have q := here_1 h (by omega) hc
  obtain ⟨r, w⟩ := nr1_y eL eH (h.go (by omega)) hi ha h1 hlo hhi hh
  constructor
  · unfold s_X9_labelled_1_r
    rw [q, if_neg one_n, r]
  · unfold s_X9_labelled_1_w0
    rw [q, if_neg one_n, w, upd_twice]
theorem lb2_y (eL : L9 = nI lo) (eH : H9 = nI hi9) (h : at9 x n i) (hi : i + 2 < n) (hc : ft i = c) {v : Nat} (hv : v < 100) (h1 : ft (i + 1) = nI (48 + v / 10)) (h2 : ft (i + 2) = nI (48 + v % 10)) (hlo : lo ≤ v) (hhi : v ≤ hi9) (hh : hi9 < 1000) : s_X9_labelled_2_r c L9 H9 x ft = nI v ∧ s_X9_labelled_2_w0 c L9 H9 x ft = upd x 2 (nI (i + 3)) := by
  have q := here_1 h (by omega) hc
  obtain ⟨r, w⟩ := nr2_y eL eH (h.go (by omega)) hi hv h1 h2 hlo hhi hh
  constructor
  · unfold s_X9_labelled_2_r
    rw [q, if_neg one_n, r]
  · unfold s_X9_labelled_2_w0
    rw [q, if_neg one_n, w, upd_twice]
theorem lb3_y (eL : L9 = nI lo) (eH : H9 = nI hi9) (h : at9 x n i) (hi : i + 3 < n) (hc : ft i = c) {v : Nat} (hv : v < 1000) (h1 : ft (i + 1) = nI (48 + v / 100)) (h2 : ft (i + 2) = nI (48 + v % 100 / 10)) (h3 : ft (i + 3) = nI (48 + v % 100 % 10)) (hlo : lo ≤ v) (hhi : v ≤ hi9) (hh : hi9 < 1000) : s_X9_labelled_3_r c L9 H9 x ft = nI v ∧ s_X9_labelled_3_w0 c L9 H9 x ft = upd x 2 (nI (i + 4)) := by
  have q := here_1 h (by omega) hc
  obtain ⟨r, w⟩ := nr3_y eL eH (h.go (by omega)) hi hv h1 h2 h3 hlo hhi hh
  constructor
  · unfold s_X9_labelled_3_r
    rw [q, if_neg one_n, r]
  · unfold s_X9_labelled_3_w0
    rw [q, if_neg one_n, w, upd_twice]
theorem lb1_n (h : at9 x n i) (hi : n ≤ i) : s_X9_labelled_1_r c L9 H9 x ft = -1 ∧ s_X9_labelled_1_w0 c L9 H9 x ft = x := by
  have q := here_0 (c := c) (ft := ft) h (fun k => absurd k (by omega))
  constructor
  · unfold s_X9_labelled_1_r
    rw [q, if_pos rfl]
  · unfold s_X9_labelled_1_w0
    rw [q, if_pos rfl]
theorem lb2_n (h : at9 x n i) (hi : i < n) (hn : n ≤ i + 1) (hc : ft i = c) : s_X9_labelled_2_r c L9 H9 x ft = -1 ∧ s_X9_labelled_2_w0 c L9 H9 x ft = upd x 2 (nI (i + 1)) := by
  have q := here_1 h hi hc
  obtain ⟨r, w⟩ := nr2_n (L9 := L9) (H9 := H9) (ft := ft) (h.go hi) hn
  constructor
  · unfold s_X9_labelled_2_r
    rw [q, if_neg one_n, r]
  · unfold s_X9_labelled_2_w0
    rw [q, if_neg one_n, w, st1 h]
theorem lb3_n (h : at9 x n i) (hi : i < n) (hn : n ≤ i + 1) (hc : ft i = c) : s_X9_labelled_3_r c L9 H9 x ft = -1 ∧ s_X9_labelled_3_w0 c L9 H9 x ft = upd x 2 (nI (i + 1)) := by
  have q := here_1 h hi hc
  obtain ⟨r, w⟩ := nr3_n (L9 := L9) (H9 := H9) (ft := ft) (h.go hi) hn
  constructor
  · unfold s_X9_labelled_3_r
    rw [q, if_neg one_n, r]
  · unfold s_X9_labelled_3_w0
    rw [q, if_neg one_n, w, st1 h]
end NUMS
/-- the heater's letters -/
def PL (ft : Nat → Int32) (g n l h : Nat) : Prop := (ft 0 = 71 ∧ ft 1 = nI (48 + g / 10) ∧ ft 2 = nI (48 + g % 10)) ∧ (ft 3 = 78 ∧ ft 4 = nI (48 + n / 10) ∧ ft 5 = nI (48 + n % 10)) ∧ (ft 6 = 76 ∧ ft 7 = nI (48 + l)) ∧ (ft 8 = 72 ∧ ft 9 = nI (48 + h / 10) ∧ ft 10 = nI (48 + h % 10))
/-- and their numbers -/
def PB (g n l h : Nat) : Prop := (1 ≤ g ∧ g ≤ 20) ∧ (1 ≤ n ∧ n ≤ 12) ∧ l ≤ 5 ∧ (20 ≤ h ∧ h ≤ 99)
def pV (x : Nat → Int32) (g n l h : Nat) : Nat → Int32 := upd (upd (upd (upd (upd (upd (upd (upd x 2 (nI 3)) 3 (nI g)) 2 (nI 6)) 4 (nI n)) 2 (nI 8)) 5 (nI l)) 2 (nI 11)) 6 (nI h)
theorem plant_y {N g n l h : Nat} (h0 : at9 x N 0) (hN : 11 ≤ N) (hp : PL ft g n l h) (hb : PB g n l h) : s_X9_readPlant_r x ft = 1 ∧ s_X9_readPlant_w0 x ft = pV x g n l h := by
  obtain ⟨⟨a0, a1, a2⟩, ⟨b0, b1, b2⟩, ⟨c0, c1⟩, ⟨d0, d1, d2⟩⟩ := hp
  obtain ⟨⟨g1, g2⟩, ⟨n1, n2⟩, l2, ⟨k1, k2⟩⟩ := hb
  obtain ⟨r1, w1⟩ := lb2_y (L9 := 1) (H9 := 20) (lo := 1) (hi9 := 20) (c := 71) (v := g) rfl rfl h0 (by omega) a0 (by omega) a1 a2 g1 g2 (by omega)
  have h1 : at9 (upd (upd x 2 (nI 3)) 3 (nI g)) N 3 := (h0.to (by omega)).up (by decide) (by decide)
  obtain ⟨r2, w2⟩ := lb2_y (L9 := 1) (H9 := 50) (lo := 1) (hi9 := 50) (c := 78) (v := n) rfl rfl h1 (by omega) b0 (by omega) b1 b2 n1 (by omega) (by omega)
  have h2 : at9 (upd (upd (upd (upd x 2 (nI 3)) 3 (nI g)) 2 (nI 6)) 4 (nI n)) N 6 := (h1.to (by omega)).up (by decide) (by decide)
  obtain ⟨r3, w3⟩ := lb1_y (L9 := 0) (H9 := 9) (lo := 0) (hi9 := 9) (c := 76) (a := l) rfl rfl h2 (by omega) c0 (by omega) c1 (by omega) (by omega) (by omega)
  have h3 : at9 (upd (upd (upd (upd (upd (upd x 2 (nI 3)) 3 (nI g)) 2 (nI 6)) 4 (nI n)) 2 (nI 8)) 5 (nI l)) N 8 := (h2.to (by omega)).up (by decide) (by decide)
  obtain ⟨r4, w4⟩ := lb2_y (L9 := 1) (H9 := 99) (lo := 1) (hi9 := 99) (c := 72) (v := h) rfl rfl h3 (by omega) d0 (by omega) d1 d2 (by omega) k2 (by omega)
  rw [show 0 + 3 = 3 from rfl] at w1
  rw [show 3 + 3 = 6 from rfl] at w2
  rw [show 6 + 2 = 8 from rfl] at w3
  rw [show 8 + 3 = 11 from rfl] at w4
  constructor
  · unfold s_X9_readPlant_r
    (try dsimp only)
    rw [w1, r1, if_neg (m1_n (k := g) (by omega)), w2, r2, if_neg (m1_n (k := n) (by omega)), w3, r3, if_neg (m1_n (k := l) (by omega)), r4, if_neg (m1_n (k := h) (by omega))]
  · unfold s_X9_readPlant_w0
    (try dsimp only)
    rw [w1, r1, if_neg (m1_n (k := g) (by omega)), w2, r2, if_neg (m1_n (k := n) (by omega)), w3, r3, if_neg (m1_n (k := l) (by omega)), w4, r4]
    rfl
/-- what reading begins with -/
def x0R (x : Nat → Int32) : Nat → Int32 := upd (upd (upd (upd (upd x 2 0) 7 (-1)) 8 (-1)) 9 (-1)) 10 0
theorem x0_at {N : Nat} (h : x 1 = nI N) (hN : N ≤ 60) : at9 (x0R x) N 0 := ⟨h, rfl, hN, by omega⟩
def rdR : Nat → (Nat → Int32) → (Nat → Int32) → Int32
  | 0, x, _ => if x 1 ≤ x 2 then -99999 else x 2
  | k + 1, x, ft => if x 1 ≤ x 2 then -99999 else (if s_X9_readPart_r x ft = 0 then s_X9_readPart_w0 x ft 2 else rdR k (s_X9_readPart_w0 x ft) ft)
def rdW : Nat → (Nat → Int32) → (Nat → Int32) → (Nat → Int32)
  | 0, x, _ => x
  | k + 1, x, ft => if x 1 ≤ x 2 then x else (if s_X9_readPart_r x ft = 0 then s_X9_readPart_w0 x ft else rdW k (s_X9_readPart_w0 x ft) ft)
theorem read_r9 : s_X9_read_r x ft = if s_X9_readPlant_r (x0R x) ft = 0 then s_X9_readPlant_w0 (x0R x) ft 2 else rdR 4 (s_X9_readPlant_w0 (x0R x) ft) ft := rfl
theorem read_w9 : s_X9_read_w0 x ft = if s_X9_readPlant_r (x0R x) ft = 0 then s_X9_readPlant_w0 (x0R x) ft else rdW 4 (s_X9_readPlant_w0 (x0R x) ft) ft := rfl
theorem rd_fin (h : at9 x n n) (k : Nat) : rdR k x ft = -99999 ∧ rdW k x ft = x := by
  have q : x 1 ≤ x 2 := by rw [h.1, h.2.1]; exact Int32.le_refl _
  cases k with
  | zero => exact ⟨if_pos q, rfl⟩
  | succ k => exact ⟨if_pos q, if_pos q⟩
theorem at9.nle (h : at9 x n i) (hi : i < n) : ¬ x 1 ≤ x 2 := by
  rw [h.1, h.2.1]
  exact nle_n (by have := h.2.2.1; omega) (by have := h.2.2.1; omega) hi
theorem rd_go {k : Nat} {x' : Nat → Int32} (h : at9 x n i) (hi : i < n) (hr : s_X9_readPart_r x ft = 1) (hw : s_X9_readPart_w0 x ft = x') : rdR (k + 1) x ft = rdR k x' ft ∧ rdW (k + 1) x ft = rdW k x' ft := by
  have q := h.nle hi
  simp only [rdR, rdW]
  rw [if_neg q, if_neg q, hr, if_neg one_n, if_neg one_n, hw]
  exact ⟨rfl, rfl⟩
theorem rd_bad {k : Nat} {v : Int32} (h : at9 x n i) (hi : i < n) (hr : s_X9_readPart_r x ft = 0) (hw : s_X9_readPart_w0 x ft 2 = v) : rdR (k + 1) x ft = v := by
  have q := h.nle hi
  simp only [rdR]
  rw [if_neg q, hr, if_pos rfl, hw]
-- the parts
theorem ne_c {a b : Int32} (h : ft i = a) (hn : ¬ a = b) : i < n → ¬ ft i = b := fun _ => by rw [h]; exact hn
theorem part_S (h : at9 x n i) (hi : i + 3 < n) (hc : ft i = 83) (h7 : x 7 = -1) {v : Nat} (hv : v < 1000) (h1 : ft (i + 1) = nI (48 + v / 100)) (h2 : ft (i + 2) = nI (48 + v % 100 / 10)) (h3 : ft (i + 3) = nI (48 + v % 100 % 10)) : s_X9_readPart_r x ft = 1 ∧ s_X9_readPart_w0 x ft = upd (upd x 2 (nI (i + 4))) 7 (nI v) := by
  have q65 := here_0 (c := 65) h (ne_c hc (by decide))
  have q83 := here_1 h (by omega) hc
  obtain ⟨r, w⟩ := lb3_y (L9 := 0) (H9 := 999) (lo := 0) (hi9 := 999) (c := 83) (v := v) rfl rfl h hi hc hv h1 h2 h3 (by omega) (by omega) (by omega)
  constructor
  · unfold s_X9_readPart_r
    (try dsimp only)
    rw [q65, if_pos rfl, q83, if_neg one_n, if_pos h7, r, if_neg (m1_n (k := v) (by omega))]
  · unfold s_X9_readPart_w0
    (try dsimp only)
    rw [q65, if_pos rfl, q83, if_neg one_n, if_pos h7, r, w]
theorem part_Sn (h : at9 x n i) (hi : i < n) (hn : n ≤ i + 1) (hc : ft i = 83) (h7 : x 7 = -1) : s_X9_readPart_r x ft = 0 ∧ s_X9_readPart_w0 x ft 2 = nI (i + 1) := by
  have q65 := here_0 (c := 65) h (ne_c hc (by decide))
  have q83 := here_1 h hi hc
  obtain ⟨r, w⟩ := lb3_n (L9 := 0) (H9 := 999) (c := 83) h hi hn hc
  constructor
  · unfold s_X9_readPart_r
    (try dsimp only)
    rw [q65, if_pos rfl, q83, if_neg one_n, if_pos h7, r, if_pos rfl]
  · unfold s_X9_readPart_w0
    (try dsimp only)
    rw [q65, if_pos rfl, q83, if_neg one_n, if_pos h7, r, w]
    rfl
theorem part_B (h : at9 x n i) (hi : i + 2 < n) (hc : ft i = 66) (h8 : x 8 = -1) {v : Nat} (hv : v ≤ 20) (h1 : ft (i + 1) = nI (48 + v / 10)) (h2 : ft (i + 2) = nI (48 + v % 10)) : s_X9_readPart_r x ft = 1 ∧ s_X9_readPart_w0 x ft = upd (upd x 2 (nI (i + 3))) 8 (nI v) := by
  have q65 := here_0 (c := 65) h (ne_c hc (by decide))
  have q83 := here_0 (c := 83) h (ne_c hc (by decide))
  have q66 := here_1 h (by omega) hc
  obtain ⟨r, w⟩ := lb2_y (L9 := 0) (H9 := 20) (lo := 0) (hi9 := 20) (c := 66) (v := v) rfl rfl h hi hc (by omega) h1 h2 (by omega) hv (by omega)
  constructor
  · unfold s_X9_readPart_r
    (try dsimp only)
    rw [q65, if_pos rfl, q83, if_pos rfl, q66, if_neg one_n, if_pos h8, r, if_neg (m1_n (k := v) (by omega))]
  · unfold s_X9_readPart_w0
    (try dsimp only)
    rw [q65, if_pos rfl, q83, if_pos rfl, q66, if_neg one_n, if_pos h8, r, w]
theorem part_T (h : at9 x n i) (hi : i + 2 < n) (hc : ft i = 84) (h9 : x 9 = -1) {v : Nat} (hv : v ≤ 99) (h1 : ft (i + 1) = nI (48 + v / 10)) (h2 : ft (i + 2) = nI (48 + v % 10)) : s_X9_readPart_r x ft = 1 ∧ s_X9_readPart_w0 x ft = upd (upd x 2 (nI (i + 3))) 9 (nI v) := by
  have q65 := here_0 (c := 65) h (ne_c hc (by decide))
  have q83 := here_0 (c := 83) h (ne_c hc (by decide))
  have q66 := here_0 (c := 66) h (ne_c hc (by decide))
  have q84 := here_1 h (by omega) hc
  obtain ⟨r, w⟩ := lb2_y (L9 := 0) (H9 := 99) (lo := 0) (hi9 := 99) (c := 84) (v := v) rfl rfl h hi hc (by omega) h1 h2 (by omega) hv (by omega)
  constructor
  · unfold s_X9_readPart_r
    (try dsimp only)
    rw [q65, if_pos rfl, q83, if_pos rfl, q66, if_pos rfl, q84, if_neg one_n, if_pos h9, r, if_neg (m1_n (k := v) (by omega))]
  · unfold s_X9_readPart_w0
    (try dsimp only)
    rw [q65, if_pos rfl, q83, if_pos rfl, q66, if_pos rfl, q84, if_neg one_n, if_pos h9, r, w]
/-- a second S, a second A -/
theorem part_S2 (h : at9 x n i) (hi : i < n) (hc : ft i = 83) (h7 : ¬ x 7 = -1) : s_X9_readPart_r x ft = 0 ∧ s_X9_readPart_w0 x ft 2 = nI i := by
  have q65 := here_0 (c := 65) h (ne_c hc (by decide))
  have q83 := here_1 h hi hc
  have q66 := here_0 (c := 66) h (ne_c hc (by decide))
  have q84 := here_0 (c := 84) h (ne_c hc (by decide))
  constructor
  · unfold s_X9_readPart_r
    (try dsimp only)
    rw [q65, if_pos rfl, q83, if_neg one_n, if_neg h7, q66, if_pos rfl, q84, if_pos rfl]
  · unfold s_X9_readPart_w0
    (try dsimp only)
    rw [q65, if_pos rfl, q83, if_neg one_n, if_neg h7, q66, if_pos rfl, q84, if_pos rfl]
    exact h.2.1
theorem part_A2 (h : at9 x n i) (hi : i < n) (hc : ft i = 65) (h10 : ¬ x 10 = 0) : s_X9_readPart_r x ft = 0 ∧ s_X9_readPart_w0 x ft 2 = nI i := by
  have q65 := here_1 h hi hc
  have q83 := here_0 (c := 83) h (ne_c hc (by decide))
  have q66 := here_0 (c := 66) h (ne_c hc (by decide))
  have q84 := here_0 (c := 84) h (ne_c hc (by decide))
  constructor
  · unfold s_X9_readPart_r
    (try dsimp only)
    rw [q65, if_neg one_n, if_neg h10, q83, if_pos rfl, q66, if_pos rfl, q84, if_pos rfl]
  · unfold s_X9_readPart_w0
    (try dsimp only)
    rw [q65, if_neg one_n, if_neg h10, q83, if_pos rfl, q66, if_pos rfl, q84, if_pos rfl]
    exact h.2.1
/-- the room's own temperature -/
theorem part_A (h : at9 x n i) (hi : i + 3 < n) (hc : ft i = 65) (h10 : x 10 = 0) {v : Nat} (hv : v ≤ 99) {neg : Prop} (hd : Decidable neg) (hs : ft (i + 1) = if neg then 45 else 43) (h1 : ft (i + 2) = nI (48 + v / 10)) (h2 : ft (i + 3) = nI (48 + v % 10)) : s_X9_readPart_r x ft = 1 ∧ s_X9_readPart_w0 x ft = upd (upd (upd x 2 (nI (i + 4))) 11 (if neg then -nI v else nI v)) 10 1 := by
  have q65 := here_1 h (by omega) hc
  have hg := h.go (show i < n by omega)
  have h2' : at9 (upd (upd x 2 (x 2 + 1)) 2 (x 2 + 1 + 1)) n (i + 2) := by
    rw [st2 h]
    exact h.to (by omega)
  obtain ⟨r, w⟩ := nr2_y (L9 := 0) (H9 := 99) (lo := 0) (hi9 := 99) rfl rfl h2' hi (by omega) h1 h2 (by omega) hv (by omega)
  rw [upd_twice, upd_twice] at w
  rw [upd_twice] at r
  by_cases c1 : neg
  · rw [if_pos c1] at hs ⊢
    have q45 := here_1 hg (by omega) hs
    constructor
    · unfold s_X9_readPart_r s_X9_readAmbient_r
      (try dsimp only)
      rw [q65, if_neg one_n, if_pos h10, q45, if_neg one_n, upd_twice, r, if_neg (m1_n (k := v) (by omega))]
    · unfold s_X9_readPart_w0 s_X9_readAmbient_w0
      (try dsimp only)
      rw [q65, if_neg one_n, if_pos h10, q45, if_neg one_n, upd_twice, r, if_neg (m1_n (k := v) (by omega)), w]
  · rw [if_neg c1] at hs ⊢
    have q45 := here_0 (c := 45) hg (ne_c hs (by decide))
    have q43 := here_1 hg (by omega) hs
    constructor
    · unfold s_X9_readPart_r s_X9_readAmbient_r
      (try dsimp only)
      rw [q65, if_neg one_n, if_pos h10, q45, if_pos rfl, q43, if_neg one_n, upd_twice, r, if_neg (m1_n (k := v) (by omega))]
    · unfold s_X9_readPart_w0 s_X9_readAmbient_w0
      (try dsimp only)
      rw [q65, if_neg one_n, if_pos h10, q45, if_pos rfl, q43, if_neg one_n, upd_twice, r, if_neg (m1_n (k := v) (by omega)), w]
theorem part_An (h : at9 x n i) (hi : i + 1 < n) (hn : n ≤ i + 2) (hc : ft i = 65) (h10 : x 10 = 0) {neg : Prop} (hd : Decidable neg) (hs : ft (i + 1) = if neg then 45 else 43) : s_X9_readPart_r x ft = 0 ∧ s_X9_readPart_w0 x ft 2 = nI (i + 2) := by
  have q65 := here_1 h (by omega) hc
  have hg := h.go (show i < n by omega)
  have h2' : at9 (upd x 2 (x 2 + 1 + 1)) n (i + 2) := by
    have := st2 h
    rw [upd_twice] at this
    rw [this]
    exact h.to (by omega)
  obtain ⟨r, w⟩ := nr2_n (L9 := 0) (H9 := 99) (ft := ft) h2' hn
  by_cases c1 : neg
  · rw [if_pos c1] at hs
    have q45 := here_1 hg (by omega) hs
    constructor
    · unfold s_X9_readPart_r s_X9_readAmbient_r
      (try dsimp only)
      rw [q65, if_neg one_n, if_pos h10, q45, if_neg one_n, upd_twice, r, if_pos rfl]
    · unfold s_X9_readPart_w0 s_X9_readAmbient_w0
      (try dsimp only)
      rw [q65, if_neg one_n, if_pos h10, q45, if_neg one_n, upd_twice, r, if_pos rfl, w]
      exact h2'.2.1
  · rw [if_neg c1] at hs
    have q45 := here_0 (c := 45) hg (ne_c hs (by decide))
    have q43 := here_1 hg (by omega) hs
    constructor
    · unfold s_X9_readPart_r s_X9_readAmbient_r
      (try dsimp only)
      rw [q65, if_neg one_n, if_pos h10, q45, if_pos rfl, q43, if_neg one_n, upd_twice, r, if_pos rfl]
    · unfold s_X9_readPart_w0 s_X9_readAmbient_w0
      (try dsimp only)
      rw [q65, if_neg one_n, if_pos h10, q45, if_pos rfl, q43, if_neg one_n, upd_twice, r, if_pos rfl, w]
      exact h2'.2.1
end PAR

/-! ===== all that told asks holds ===== -/
section FXT
variable {x9 ft : Nat → Int32} {g n l h p b t v : Nat} {neg : Prop}
theorem nm_pos (Ls : Nat) (xs : Nat → Int32) (k : Nat) : 0 ≤ (nmF Ls xs k).toInt := by
  unfold nmF
  generalize (if k < Ls then xs k else 15517111 * (nI k + 5) + 10139) = a
  have e : (a &&& 2147483647).toBitVec.msb = false := by
    rw [Int32.toBitVec_and, BitVec.msb_and]
    exact Bool.and_eq_false_iff.mpr (Or.inr (by decide))
  show 0 ≤ (a &&& 2147483647).toBitVec.toInt
  rw [BitVec.toInt_eq_msb_cond, if_neg (by rw [e]; decide)]
  exact Int.natCast_nonneg _
theorem fx_put {c : Int32} {T : List Int32} (h1 : ¬ c < 0) (h2 : c ≤ 255) (hT : T.length < 60) : FX_put c T := by
  have hk : kApp c T = 0 := by
    unfold kApp
    rw [if_neg h1, if_pos h2, if_pos hT]
  have hq : ¬ qApp c T ≤ 0 := by
    have e : qApp c T = nI (T.length + 1) := an_k0 hk
    rw [e]
    exact k_le0 (j := T.length + 1) (by omega) (by omega)
  exact ⟨hk, hq, hk, hq⟩
theorem fx_putn {k : Nat} {T : List Int32} (h : k ≤ 255) (hT : T.length < 60) : FX_put (nI k) T := fx_put (k_lt0 (j := k) (by omega)) (le_n (b := 255) (by omega) (by omega) h) hT
theorem c10 (v : Nat) (h : v < 1000) : 48 + nI v / 10 = nI (48 + v / 10) := by
  rw [show nI v / 10 = nI (v / 10) from pk_div (a := v) (d := 10) (by omega) (by decide) (by decide)]
  exact nI_add 48 _
theorem c1 (v : Nat) (h : v < 1000) : 48 + (nI v - nI v / 10 * 10) = nI (48 + v % 10) := by
  rw [show nI v - nI v / 10 * 10 = nI (v % 10) from pk_rem (a := v) (d := 10) (by omega) (by decide) (by decide)]
  exact nI_add 48 _
theorem fx_two {T : List Int32} (h : v < 100) (hT : T.length + 2 ≤ 60) : FX_two (nI v) T := by
  refine ⟨?_, ?_⟩
  · rw [c10 v (by omega)]
    exact fx_putn (by omega) (by omega)
  · rw [c1 v (by omega)]
    exact fx_putn (by omega) (by rw [List.length_append]; show T.length + 1 < 60; omega)
-- errors
theorem er_1 (hl : x9 1 = nI 1) (h0 : ft 0 = 71) : s_X11_errorPosition_r x9 ft = 1 := by
  obtain ⟨r, w⟩ := lb2_n (L9 := 1) (H9 := 20) (c := 71) (x0_at hl (by omega)) (by omega) (by omega) h0
  have pr : s_X9_readPlant_r (x0R x9) ft = 0 := by
    unfold s_X9_readPlant_r
    (try dsimp only)
    rw [r, if_pos rfl]
  show s_X9_read_r x9 ft = 1
  rw [read_r9, pr, if_pos rfl]
  unfold s_X9_readPlant_w0
  (try dsimp only)
  rw [r, if_pos rfl, w]
  rfl
theorem er_6 (hl : x9 1 = nI 6) (hb : PB g n l h) (a0 : ft 0 = 71) (a1 : ft 1 = nI (48 + g / 10)) (a2 : ft 2 = nI (48 + g % 10)) (b0 : ft 3 = 78) (b1 : ft 4 = nI (48 + n / 10)) (b2 : ft 5 = nI (48 + n % 10)) : s_X11_errorPosition_r x9 ft = 6 := by
  obtain ⟨⟨g1, g2⟩, ⟨n1, n2⟩, l2, ⟨k1, k2⟩⟩ := hb
  have h0 := x0_at hl (by omega)
  obtain ⟨r1, w1⟩ := lb2_y (L9 := 1) (H9 := 20) (lo := 1) (hi9 := 20) (c := 71) (v := g) rfl rfl h0 (by omega) a0 (by omega) a1 a2 g1 g2 (by omega)
  have h1 : at9 (upd (upd (x0R x9) 2 (nI 3)) 3 (nI g)) 6 3 := (h0.to (by omega)).up (by decide) (by decide)
  obtain ⟨r2, w2⟩ := lb2_y (L9 := 1) (H9 := 50) (lo := 1) (hi9 := 50) (c := 78) (v := n) rfl rfl h1 (by omega) b0 (by omega) b1 b2 n1 (by omega) (by omega)
  have h2 : at9 (upd (upd (upd (upd (x0R x9) 2 (nI 3)) 3 (nI g)) 2 (nI 6)) 4 (nI n)) 6 6 := (h1.to (by omega)).up (by decide) (by decide)
  obtain ⟨r3, w3⟩ := lb1_n (L9 := 0) (H9 := 9) (c := 76) (ft := ft) h2 (by omega)
  rw [show 0 + 3 = 3 from rfl] at w1
  rw [show 3 + 3 = 6 from rfl] at w2
  have pr : s_X9_readPlant_r (x0R x9) ft = 0 := by
    unfold s_X9_readPlant_r
    (try dsimp only)
    rw [w1, r1, if_neg (m1_n (k := g) (by omega)), w2, r2, if_neg (m1_n (k := n) (by omega)), r3, if_pos rfl]
  show s_X9_read_r x9 ft = 6
  rw [read_r9, pr, if_pos rfl]
  unfold s_X9_readPlant_w0
  (try dsimp only)
  rw [w1, r1, if_neg (m1_n (k := g) (by omega)), w2, r2, if_neg (m1_n (k := n) (by omega)), r3, if_pos rfl, w3]
  rfl
theorem er_9 (hl : x9 1 = nI 9) (hb : PB g n l h) (a0 : ft 0 = 71) (a1 : ft 1 = nI (48 + g / 10)) (a2 : ft 2 = nI (48 + g % 10)) (b0 : ft 3 = 78) (b1 : ft 4 = nI (48 + n / 10)) (b2 : ft 5 = nI (48 + n % 10)) (c0 : ft 6 = 76) (c1 : ft 7 = nI (48 + l)) (d0 : ft 8 = 72) : s_X11_errorPosition_r x9 ft = 9 := by
  obtain ⟨⟨g1, g2⟩, ⟨n1, n2⟩, l2, ⟨k1, k2⟩⟩ := hb
  have h0 := x0_at hl (by omega)
  obtain ⟨r1, w1⟩ := lb2_y (L9 := 1) (H9 := 20) (lo := 1) (hi9 := 20) (c := 71) (v := g) rfl rfl h0 (by omega) a0 (by omega) a1 a2 g1 g2 (by omega)
  have h1 : at9 (upd (upd (x0R x9) 2 (nI 3)) 3 (nI g)) 9 3 := (h0.to (by omega)).up (by decide) (by decide)
  obtain ⟨r2, w2⟩ := lb2_y (L9 := 1) (H9 := 50) (lo := 1) (hi9 := 50) (c := 78) (v := n) rfl rfl h1 (by omega) b0 (by omega) b1 b2 n1 (by omega) (by omega)
  have h2 : at9 (upd (upd (upd (upd (x0R x9) 2 (nI 3)) 3 (nI g)) 2 (nI 6)) 4 (nI n)) 9 6 := (h1.to (by omega)).up (by decide) (by decide)
  obtain ⟨r3, w3⟩ := lb1_y (L9 := 0) (H9 := 9) (lo := 0) (hi9 := 9) (c := 76) (a := l) rfl rfl h2 (by omega) c0 (by omega) c1 (by omega) (by omega) (by omega)
  have h3 : at9 (upd (upd (upd (upd (upd (upd (x0R x9) 2 (nI 3)) 3 (nI g)) 2 (nI 6)) 4 (nI n)) 2 (nI 8)) 5 (nI l)) 9 8 := (h2.to (by omega)).up (by decide) (by decide)
  obtain ⟨r4, w4⟩ := lb2_n (L9 := 1) (H9 := 99) (c := 72) h3 (by omega) (by omega) d0
  rw [show 0 + 3 = 3 from rfl] at w1
  rw [show 3 + 3 = 6 from rfl] at w2
  rw [show 6 + 2 = 8 from rfl] at w3
  have pr : s_X9_readPlant_r (x0R x9) ft = 0 := by
    unfold s_X9_readPlant_r
    (try dsimp only)
    rw [w1, r1, if_neg (m1_n (k := g) (by omega)), w2, r2, if_neg (m1_n (k := n) (by omega)), w3, r3, if_neg (m1_n (k := l) (by omega)), r4, if_pos rfl]
  show s_X9_read_r x9 ft = 9
  rw [read_r9, pr, if_pos rfl]
  unfold s_X9_readPlant_w0
  (try dsimp only)
  rw [w1, r1, if_neg (m1_n (k := g) (by omega)), w2, r2, if_neg (m1_n (k := n) (by omega)), w3, r3, if_neg (m1_n (k := l) (by omega)), w4]
  rfl
theorem pl_r {N : Nat} (hl : x9 1 = nI N) (hN : 11 ≤ N) (hN2 : N ≤ 60) (hp : PL ft g n l h) (hb : PB g n l h) : s_X9_read_r x9 ft = rdR 4 (pV (x0R x9) g n l h) ft ∧ s_X9_read_w0 x9 ft = rdW 4 (pV (x0R x9) g n l h) ft ∧ at9 (pV (x0R x9) g n l h) N 11 := by
  have h0 := x0_at hl hN2
  obtain ⟨r, w⟩ := plant_y h0 hN hp hb
  refine ⟨?_, ?_, ⟨hl, rfl, hN2, by omega⟩⟩
  · rw [read_r9, r, w, if_neg one_n]
  · rw [read_w9, r, w, if_neg one_n]
theorem er_11 (hl : x9 1 = nI 11) (hp : PL ft g n l h) (hb : PB g n l h) : s_X11_errorPosition_r x9 ft = -99999 := by
  obtain ⟨r, -, a⟩ := pl_r hl (by omega) (by omega) hp hb
  exact r.trans (rd_fin a 4).1
theorem er_12 (hl : x9 1 = nI 12) (hp : PL ft g n l h) (hb : PB g n l h) (c0 : ft 11 = 83) : s_X11_errorPosition_r x9 ft = 12 := by
  obtain ⟨r, -, a⟩ := pl_r hl (by omega) (by omega) hp hb
  obtain ⟨r1, w1⟩ := part_Sn a (by omega) (by omega) c0 rfl
  exact r.trans (rd_bad a (by omega) r1 w1)
theorem er_15 (hl : x9 1 = nI 15) (hp : PL ft g n l h) (hb : PB g n l h) (hp9 : p < 1000) (c0 : ft 11 = 83) (c1 : ft 12 = nI (48 + p / 100)) (c2 : ft 13 = nI (48 + p % 100 / 10)) (c3 : ft 14 = nI (48 + p % 100 % 10)) : s_X11_errorPosition_r x9 ft = -99999 := by
  obtain ⟨r, -, a⟩ := pl_r hl (by omega) (by omega) hp hb
  obtain ⟨r1, w1⟩ := part_S a (by omega) c0 rfl hp9 c1 c2 c3
  have a1 : at9 (upd (upd (pV (x0R x9) g n l h) 2 (nI (11 + 4))) 7 (nI p)) 15 15 := (a.to (by omega)).up (by decide) (by decide)
  exact r.trans ((rd_go a (by omega) r1 w1).1.trans (rd_fin a1 3).1)
theorem er_18 (hl : x9 1 = nI 18) (hp : PL ft g n l h) (hb : PB g n l h) (hp9 : p < 1000) (hb9 : b ≤ 20) (c0 : ft 11 = 83) (c1 : ft 12 = nI (48 + p / 100)) (c2 : ft 13 = nI (48 + p % 100 / 10)) (c3 : ft 14 = nI (48 + p % 100 % 10)) (e0 : ft 15 = 66) (e1 : ft 16 = nI (48 + b / 10)) (e2 : ft 17 = nI (48 + b % 10)) : s_X11_errorPosition_r x9 ft = -99999 := by
  obtain ⟨r, -, a⟩ := pl_r hl (by omega) (by omega) hp hb
  obtain ⟨r1, w1⟩ := part_S a (by omega) c0 rfl hp9 c1 c2 c3
  have a1 : at9 (upd (upd (pV (x0R x9) g n l h) 2 (nI (11 + 4))) 7 (nI p)) 18 15 := (a.to (by omega)).up (by decide) (by decide)
  obtain ⟨r2, w2⟩ := part_B a1 (by omega) e0 rfl hb9 e1 e2
  have a2 : at9 (upd (upd (upd (upd (pV (x0R x9) g n l h) 2 (nI (11 + 4))) 7 (nI p)) 2 (nI (15 + 3))) 8 (nI b)) 18 18 := (a1.to (by omega)).up (by decide) (by decide)
  exact r.trans ((rd_go a (by omega) r1 w1).1.trans ((rd_go a1 (by omega) r2 w2).1.trans (rd_fin a2 2).1))
theorem er_19 (hl : x9 1 = nI 19) (hp : PL ft g n l h) (hb : PB g n l h) (hp9 : p < 1000) (hb9 : b ≤ 20) (c0 : ft 11 = 83) (c1 : ft 12 = nI (48 + p / 100)) (c2 : ft 13 = nI (48 + p % 100 / 10)) (c3 : ft 14 = nI (48 + p % 100 % 10)) (e0 : ft 15 = 66) (e1 : ft 16 = nI (48 + b / 10)) (e2 : ft 17 = nI (48 + b % 10)) (f0 : ft 18 = 83) : s_X11_errorPosition_r x9 ft = 18 := by
  obtain ⟨r, -, a⟩ := pl_r hl (by omega) (by omega) hp hb
  obtain ⟨r1, w1⟩ := part_S a (by omega) c0 rfl hp9 c1 c2 c3
  have a1 : at9 (upd (upd (pV (x0R x9) g n l h) 2 (nI (11 + 4))) 7 (nI p)) 19 15 := (a.to (by omega)).up (by decide) (by decide)
  obtain ⟨r2, w2⟩ := part_B a1 (by omega) e0 rfl hb9 e1 e2
  have a2 : at9 (upd (upd (upd (upd (pV (x0R x9) g n l h) 2 (nI (11 + 4))) 7 (nI p)) 2 (nI (15 + 3))) 8 (nI b)) 19 18 := (a1.to (by omega)).up (by decide) (by decide)
  obtain ⟨r3, w3⟩ := part_S2 a2 (by omega) f0 (m1_n (k := p) (by omega))
  exact r.trans ((rd_go a (by omega) r1 w1).1.trans ((rd_go a1 (by omega) r2 w2).1.trans (rd_bad a2 (by omega) r3 w3)))
theorem er_13 {hd : Decidable neg} (hl : x9 1 = nI 13) (hp : PL ft g n l h) (hb : PB g n l h) (c0 : ft 11 = 65) (c1 : ft 12 = if neg then 45 else 43) : s_X11_errorPosition_r x9 ft = 13 := by
  obtain ⟨r, -, a⟩ := pl_r hl (by omega) (by omega) hp hb
  obtain ⟨r1, w1⟩ := part_An a (by omega) (by omega) c0 rfl hd c1
  exact r.trans (rd_bad a (by omega) r1 w1)
/-- what stands behind a whole text -/
def wV (x : Nat → Int32) (g n l h : Nat) (m : Int32) (p t : Nat) : Nat → Int32 := upd (upd (upd (upd (upd (upd (upd (pV x g n l h) 2 (nI 15)) 11 m) 10 1) 2 (nI 19)) 7 (nI p)) 2 (nI 22)) 9 (nI t)
theorem er_A {N : Nat} {hd : Decidable neg} (hl : x9 1 = nI N) (hN : 22 ≤ N) (hN2 : N ≤ 60) (hp : PL ft g n l h) (hb : PB g n l h) (hp9 : p < 1000) (ht9 : t ≤ 99) (hv9 : v ≤ 99) (c0 : ft 11 = 65) (c1 : ft 12 = if neg then 45 else 43) (c2 : ft 13 = nI (48 + v / 10)) (c3 : ft 14 = nI (48 + v % 10)) (d0 : ft 15 = 83) (d1 : ft 16 = nI (48 + p / 100)) (d2 : ft 17 = nI (48 + p % 100 / 10)) (d3 : ft 18 = nI (48 + p % 100 % 10)) (e0 : ft 19 = 84) (e1 : ft 20 = nI (48 + t / 10)) (e2 : ft 21 = nI (48 + t % 10)) : s_X9_read_r x9 ft = rdR 1 (wV (x0R x9) g n l h (if neg then -nI v else nI v) p t) ft ∧ s_X9_read_w0 x9 ft = rdW 1 (wV (x0R x9) g n l h (if neg then -nI v else nI v) p t) ft ∧ at9 (wV (x0R x9) g n l h (if neg then -nI v else nI v) p t) N 22 := by
  obtain ⟨r, w, a⟩ := pl_r hl (by omega) (by omega) hp hb
  obtain ⟨r1, w1⟩ := part_A a (by omega) c0 rfl hv9 hd c1 c2 c3
  generalize (if neg then -nI v else nI v) = m at *
  have a1 : at9 (upd (upd (upd (pV (x0R x9) g n l h) 2 (nI (11 + 4))) 11 m) 10 1) N 15 := ((a.to (by omega)).up (by decide) (by decide)).up (by decide) (by decide)
  obtain ⟨r2, w2⟩ := part_S a1 (by omega) d0 rfl hp9 d1 d2 d3
  have a2 : at9 (upd (upd (upd (upd (upd (pV (x0R x9) g n l h) 2 (nI (11 + 4))) 11 m) 10 1) 2 (nI (15 + 4))) 7 (nI p)) N 19 := (a1.to (by omega)).up (by decide) (by decide)
  obtain ⟨r3, w3⟩ := part_T a2 (by omega) e0 rfl ht9 e1 e2
  have a3 : at9 (upd (upd (upd (upd (upd (upd (upd (pV (x0R x9) g n l h) 2 (nI (11 + 4))) 11 m) 10 1) 2 (nI (15 + 4))) 7 (nI p)) 2 (nI (19 + 3))) 9 (nI t)) N 22 := (a2.to (by omega)).up (by decide) (by decide)
  have g1 := rd_go (k := 3) a (by omega) r1 w1
  have g2 := rd_go (k := 2) a1 (by omega) r2 w2
  have g3 := rd_go (k := 1) a2 (by omega) r3 w3
  exact ⟨r.trans (g1.1.trans (g2.1.trans g3.1)), w.trans (g1.2.trans (g2.2.trans g3.2)), a3⟩
theorem er_22 {hd : Decidable neg} (hl : x9 1 = nI 22) (hp : PL ft g n l h) (hb : PB g n l h) (hp9 : p < 1000) (ht9 : t ≤ 99) (hv9 : v ≤ 99) (c0 : ft 11 = 65) (c1 : ft 12 = if neg then 45 else 43) (c2 : ft 13 = nI (48 + v / 10)) (c3 : ft 14 = nI (48 + v % 10)) (d0 : ft 15 = 83) (d1 : ft 16 = nI (48 + p / 100)) (d2 : ft 17 = nI (48 + p % 100 / 10)) (d3 : ft 18 = nI (48 + p % 100 % 10)) (e0 : ft 19 = 84) (e1 : ft 20 = nI (48 + t / 10)) (e2 : ft 21 = nI (48 + t % 10)) : s_X11_errorPosition_r x9 ft = -99999 ∧ s_X9_read_w0 x9 ft = wV (x0R x9) g n l h (if neg then -nI v else nI v) p t ∧ p < 1000 ∧ t ≤ 99 := by
  obtain ⟨r, w, a⟩ := er_A hl (by omega) (by omega) hp hb hp9 ht9 hv9 c0 c1 c2 c3 d0 d1 d2 d3 e0 e1 e2
  exact ⟨r.trans (rd_fin a 1).1, w.trans (rd_fin a 1).2, hp9, ht9⟩
theorem er_23 {hd : Decidable neg} (hl : x9 1 = nI 23) (hp : PL ft g n l h) (hb : PB g n l h) (hp9 : p < 1000) (ht9 : t ≤ 99) (hv9 : v ≤ 99) (c0 : ft 11 = 65) (c1 : ft 12 = if neg then 45 else 43) (c2 : ft 13 = nI (48 + v / 10)) (c3 : ft 14 = nI (48 + v % 10)) (d0 : ft 15 = 83) (d1 : ft 16 = nI (48 + p / 100)) (d2 : ft 17 = nI (48 + p % 100 / 10)) (d3 : ft 18 = nI (48 + p % 100 % 10)) (e0 : ft 19 = 84) (e1 : ft 20 = nI (48 + t / 10)) (e2 : ft 21 = nI (48 + t % 10)) (f0 : ft 22 = 65) : s_X11_errorPosition_r x9 ft = 22 := by
  obtain ⟨r, w, a⟩ := er_A hl (by omega) (by omega) hp hb hp9 ht9 hv9 c0 c1 c2 c3 d0 d1 d2 d3 e0 e1 e2
  obtain ⟨r1, w1⟩ := part_A2 a (by omega) f0 (show ¬ (1 : Int32) = 0 from one_n)
  exact r.trans (rd_bad a (by omega) r1 w1)
theorem sg_n {a : Int32} : (if 0 ≤ a then (43 : Int32) else (45 : Int32)) = if ¬ 0 ≤ a then (45 : Int32) else (43 : Int32) := by
  by_cases c : 0 ≤ a
  · rw [if_pos c, if_neg (fun q => q c)]
  · rw [if_neg c, if_pos c]
theorem tx_1 {a : Int32} (hPB : PB g n l h) (hp9 : p < 1000) (hb9 : b ≤ 20) (ht9 : t ≤ 99) (hv9 : v ≤ 99) (hT : TXR [71] x9 ft) : s_X11_errorPosition_r x9 ft = 1 :=
  er_1 hT.1 (hT.2.2 0 (show 0 < 1 by decide))
theorem tx_6 {a : Int32} (hPB : PB g n l h) (hp9 : p < 1000) (hb9 : b ≤ 20) (ht9 : t ≤ 99) (hv9 : v ≤ 99) (hT : TXR [71, nI (48 + g / 10), nI (48 + g % 10), 78, nI (48 + n / 10), nI (48 + n % 10)] x9 ft) : s_X11_errorPosition_r x9 ft = 6 :=
  er_6 hT.1 hPB (hT.2.2 0 (show 0 < 6 by decide)) (hT.2.2 1 (show 1 < 6 by decide)) (hT.2.2 2 (show 2 < 6 by decide)) (hT.2.2 3 (show 3 < 6 by decide)) (hT.2.2 4 (show 4 < 6 by decide)) (hT.2.2 5 (show 5 < 6 by decide))
theorem tx_9 {a : Int32} (hPB : PB g n l h) (hp9 : p < 1000) (hb9 : b ≤ 20) (ht9 : t ≤ 99) (hv9 : v ≤ 99) (hT : TXR [71, nI (48 + g / 10), nI (48 + g % 10), 78, nI (48 + n / 10), nI (48 + n % 10), 76, nI (48 + l), 72] x9 ft) : s_X11_errorPosition_r x9 ft = 9 :=
  er_9 hT.1 hPB (hT.2.2 0 (show 0 < 9 by decide)) (hT.2.2 1 (show 1 < 9 by decide)) (hT.2.2 2 (show 2 < 9 by decide)) (hT.2.2 3 (show 3 < 9 by decide)) (hT.2.2 4 (show 4 < 9 by decide)) (hT.2.2 5 (show 5 < 9 by decide)) (hT.2.2 6 (show 6 < 9 by decide)) (hT.2.2 7 (show 7 < 9 by decide)) (hT.2.2 8 (show 8 < 9 by decide))
theorem tx_11 {a : Int32} (hPB : PB g n l h) (hp9 : p < 1000) (hb9 : b ≤ 20) (ht9 : t ≤ 99) (hv9 : v ≤ 99) (hT : TXR [71, nI (48 + g / 10), nI (48 + g % 10), 78, nI (48 + n / 10), nI (48 + n % 10), 76, nI (48 + l), 72, nI (48 + h / 10), nI (48 + h % 10)] x9 ft) : s_X11_errorPosition_r x9 ft = -99999 :=
  er_11 hT.1 ⟨⟨(hT.2.2 0 (show 0 < 11 by decide)), (hT.2.2 1 (show 1 < 11 by decide)), (hT.2.2 2 (show 2 < 11 by decide))⟩, ⟨(hT.2.2 3 (show 3 < 11 by decide)), (hT.2.2 4 (show 4 < 11 by decide)), (hT.2.2 5 (show 5 < 11 by decide))⟩, ⟨(hT.2.2 6 (show 6 < 11 by decide)), (hT.2.2 7 (show 7 < 11 by decide))⟩, ⟨(hT.2.2 8 (show 8 < 11 by decide)), (hT.2.2 9 (show 9 < 11 by decide)), (hT.2.2 10 (show 10 < 11 by decide))⟩⟩ hPB
theorem tx_12 {a : Int32} (hPB : PB g n l h) (hp9 : p < 1000) (hb9 : b ≤ 20) (ht9 : t ≤ 99) (hv9 : v ≤ 99) (hT : TXR [71, nI (48 + g / 10), nI (48 + g % 10), 78, nI (48 + n / 10), nI (48 + n % 10), 76, nI (48 + l), 72, nI (48 + h / 10), nI (48 + h % 10), 83] x9 ft) : s_X11_errorPosition_r x9 ft = 12 :=
  er_12 hT.1 ⟨⟨(hT.2.2 0 (show 0 < 12 by decide)), (hT.2.2 1 (show 1 < 12 by decide)), (hT.2.2 2 (show 2 < 12 by decide))⟩, ⟨(hT.2.2 3 (show 3 < 12 by decide)), (hT.2.2 4 (show 4 < 12 by decide)), (hT.2.2 5 (show 5 < 12 by decide))⟩, ⟨(hT.2.2 6 (show 6 < 12 by decide)), (hT.2.2 7 (show 7 < 12 by decide))⟩, ⟨(hT.2.2 8 (show 8 < 12 by decide)), (hT.2.2 9 (show 9 < 12 by decide)), (hT.2.2 10 (show 10 < 12 by decide))⟩⟩ hPB (hT.2.2 11 (show 11 < 12 by decide))
theorem tx_15 {a : Int32} (hPB : PB g n l h) (hp9 : p < 1000) (hb9 : b ≤ 20) (ht9 : t ≤ 99) (hv9 : v ≤ 99) (hT : TXR [71, nI (48 + g / 10), nI (48 + g % 10), 78, nI (48 + n / 10), nI (48 + n % 10), 76, nI (48 + l), 72, nI (48 + h / 10), nI (48 + h % 10), 83, nI (48 + p / 100), nI (48 + p % 100 / 10), nI (48 + p % 100 % 10)] x9 ft) : s_X11_errorPosition_r x9 ft = -99999 :=
  er_15 hT.1 ⟨⟨(hT.2.2 0 (show 0 < 15 by decide)), (hT.2.2 1 (show 1 < 15 by decide)), (hT.2.2 2 (show 2 < 15 by decide))⟩, ⟨(hT.2.2 3 (show 3 < 15 by decide)), (hT.2.2 4 (show 4 < 15 by decide)), (hT.2.2 5 (show 5 < 15 by decide))⟩, ⟨(hT.2.2 6 (show 6 < 15 by decide)), (hT.2.2 7 (show 7 < 15 by decide))⟩, ⟨(hT.2.2 8 (show 8 < 15 by decide)), (hT.2.2 9 (show 9 < 15 by decide)), (hT.2.2 10 (show 10 < 15 by decide))⟩⟩ hPB hp9 (hT.2.2 11 (show 11 < 15 by decide)) (hT.2.2 12 (show 12 < 15 by decide)) (hT.2.2 13 (show 13 < 15 by decide)) (hT.2.2 14 (show 14 < 15 by decide))
theorem tx_18 {a : Int32} (hPB : PB g n l h) (hp9 : p < 1000) (hb9 : b ≤ 20) (ht9 : t ≤ 99) (hv9 : v ≤ 99) (hT : TXR [71, nI (48 + g / 10), nI (48 + g % 10), 78, nI (48 + n / 10), nI (48 + n % 10), 76, nI (48 + l), 72, nI (48 + h / 10), nI (48 + h % 10), 83, nI (48 + p / 100), nI (48 + p % 100 / 10), nI (48 + p % 100 % 10), 66, nI (48 + b / 10), nI (48 + b % 10)] x9 ft) : s_X11_errorPosition_r x9 ft = -99999 :=
  er_18 hT.1 ⟨⟨(hT.2.2 0 (show 0 < 18 by decide)), (hT.2.2 1 (show 1 < 18 by decide)), (hT.2.2 2 (show 2 < 18 by decide))⟩, ⟨(hT.2.2 3 (show 3 < 18 by decide)), (hT.2.2 4 (show 4 < 18 by decide)), (hT.2.2 5 (show 5 < 18 by decide))⟩, ⟨(hT.2.2 6 (show 6 < 18 by decide)), (hT.2.2 7 (show 7 < 18 by decide))⟩, ⟨(hT.2.2 8 (show 8 < 18 by decide)), (hT.2.2 9 (show 9 < 18 by decide)), (hT.2.2 10 (show 10 < 18 by decide))⟩⟩ hPB hp9 hb9 (hT.2.2 11 (show 11 < 18 by decide)) (hT.2.2 12 (show 12 < 18 by decide)) (hT.2.2 13 (show 13 < 18 by decide)) (hT.2.2 14 (show 14 < 18 by decide)) (hT.2.2 15 (show 15 < 18 by decide)) (hT.2.2 16 (show 16 < 18 by decide)) (hT.2.2 17 (show 17 < 18 by decide))
theorem tx_19 {a : Int32} (hPB : PB g n l h) (hp9 : p < 1000) (hb9 : b ≤ 20) (ht9 : t ≤ 99) (hv9 : v ≤ 99) (hT : TXR [71, nI (48 + g / 10), nI (48 + g % 10), 78, nI (48 + n / 10), nI (48 + n % 10), 76, nI (48 + l), 72, nI (48 + h / 10), nI (48 + h % 10), 83, nI (48 + p / 100), nI (48 + p % 100 / 10), nI (48 + p % 100 % 10), 66, nI (48 + b / 10), nI (48 + b % 10), 83] x9 ft) : s_X11_errorPosition_r x9 ft = 18 :=
  er_19 hT.1 ⟨⟨(hT.2.2 0 (show 0 < 19 by decide)), (hT.2.2 1 (show 1 < 19 by decide)), (hT.2.2 2 (show 2 < 19 by decide))⟩, ⟨(hT.2.2 3 (show 3 < 19 by decide)), (hT.2.2 4 (show 4 < 19 by decide)), (hT.2.2 5 (show 5 < 19 by decide))⟩, ⟨(hT.2.2 6 (show 6 < 19 by decide)), (hT.2.2 7 (show 7 < 19 by decide))⟩, ⟨(hT.2.2 8 (show 8 < 19 by decide)), (hT.2.2 9 (show 9 < 19 by decide)), (hT.2.2 10 (show 10 < 19 by decide))⟩⟩ hPB hp9 hb9 (hT.2.2 11 (show 11 < 19 by decide)) (hT.2.2 12 (show 12 < 19 by decide)) (hT.2.2 13 (show 13 < 19 by decide)) (hT.2.2 14 (show 14 < 19 by decide)) (hT.2.2 15 (show 15 < 19 by decide)) (hT.2.2 16 (show 16 < 19 by decide)) (hT.2.2 17 (show 17 < 19 by decide)) (hT.2.2 18 (show 18 < 19 by decide))
theorem tx_13 {a : Int32} (hPB : PB g n l h) (hp9 : p < 1000) (hb9 : b ≤ 20) (ht9 : t ≤ 99) (hv9 : v ≤ 99) (hT : TXR [71, nI (48 + g / 10), nI (48 + g % 10), 78, nI (48 + n / 10), nI (48 + n % 10), 76, nI (48 + l), 72, nI (48 + h / 10), nI (48 + h % 10), 65, (if 0 ≤ a then (43 : Int32) else (45 : Int32))] x9 ft) : s_X11_errorPosition_r x9 ft = 13 :=
  er_13 hT.1 ⟨⟨(hT.2.2 0 (show 0 < 13 by decide)), (hT.2.2 1 (show 1 < 13 by decide)), (hT.2.2 2 (show 2 < 13 by decide))⟩, ⟨(hT.2.2 3 (show 3 < 13 by decide)), (hT.2.2 4 (show 4 < 13 by decide)), (hT.2.2 5 (show 5 < 13 by decide))⟩, ⟨(hT.2.2 6 (show 6 < 13 by decide)), (hT.2.2 7 (show 7 < 13 by decide))⟩, ⟨(hT.2.2 8 (show 8 < 13 by decide)), (hT.2.2 9 (show 9 < 13 by decide)), (hT.2.2 10 (show 10 < 13 by decide))⟩⟩ hPB (hT.2.2 11 (show 11 < 13 by decide)) ((hT.2.2 12 (show 12 < 13 by decide)).trans sg_n)
theorem tx_22 {a : Int32} (hPB : PB g n l h) (hp9 : p < 1000) (hb9 : b ≤ 20) (ht9 : t ≤ 99) (hv9 : v ≤ 99) (hT : TXR [71, nI (48 + g / 10), nI (48 + g % 10), 78, nI (48 + n / 10), nI (48 + n % 10), 76, nI (48 + l), 72, nI (48 + h / 10), nI (48 + h % 10), 65, (if 0 ≤ a then (43 : Int32) else (45 : Int32)), nI (48 + v / 10), nI (48 + v % 10), 83, nI (48 + p / 100), nI (48 + p % 100 / 10), nI (48 + p % 100 % 10), 84, nI (48 + t / 10), nI (48 + t % 10)] x9 ft) : s_X11_errorPosition_r x9 ft = -99999 ∧ s_X9_read_w0 x9 ft = wV (x0R x9) g n l h (if ¬ 0 ≤ a then -nI v else nI v) p t ∧ p < 1000 ∧ t ≤ 99 :=
  er_22 hT.1 ⟨⟨(hT.2.2 0 (show 0 < 22 by decide)), (hT.2.2 1 (show 1 < 22 by decide)), (hT.2.2 2 (show 2 < 22 by decide))⟩, ⟨(hT.2.2 3 (show 3 < 22 by decide)), (hT.2.2 4 (show 4 < 22 by decide)), (hT.2.2 5 (show 5 < 22 by decide))⟩, ⟨(hT.2.2 6 (show 6 < 22 by decide)), (hT.2.2 7 (show 7 < 22 by decide))⟩, ⟨(hT.2.2 8 (show 8 < 22 by decide)), (hT.2.2 9 (show 9 < 22 by decide)), (hT.2.2 10 (show 10 < 22 by decide))⟩⟩ hPB hp9 ht9 hv9 (hT.2.2 11 (show 11 < 22 by decide)) ((hT.2.2 12 (show 12 < 22 by decide)).trans sg_n) (hT.2.2 13 (show 13 < 22 by decide)) (hT.2.2 14 (show 14 < 22 by decide)) (hT.2.2 15 (show 15 < 22 by decide)) (hT.2.2 16 (show 16 < 22 by decide)) (hT.2.2 17 (show 17 < 22 by decide)) (hT.2.2 18 (show 18 < 22 by decide)) (hT.2.2 19 (show 19 < 22 by decide)) (hT.2.2 20 (show 20 < 22 by decide)) (hT.2.2 21 (show 21 < 22 by decide))
theorem tx_23 {a : Int32} (hPB : PB g n l h) (hp9 : p < 1000) (hb9 : b ≤ 20) (ht9 : t ≤ 99) (hv9 : v ≤ 99) (hT : TXR [71, nI (48 + g / 10), nI (48 + g % 10), 78, nI (48 + n / 10), nI (48 + n % 10), 76, nI (48 + l), 72, nI (48 + h / 10), nI (48 + h % 10), 65, (if 0 ≤ a then (43 : Int32) else (45 : Int32)), nI (48 + v / 10), nI (48 + v % 10), 83, nI (48 + p / 100), nI (48 + p % 100 / 10), nI (48 + p % 100 % 10), 84, nI (48 + t / 10), nI (48 + t % 10), 65] x9 ft) : s_X11_errorPosition_r x9 ft = 22 :=
  er_23 hT.1 ⟨⟨(hT.2.2 0 (show 0 < 23 by decide)), (hT.2.2 1 (show 1 < 23 by decide)), (hT.2.2 2 (show 2 < 23 by decide))⟩, ⟨(hT.2.2 3 (show 3 < 23 by decide)), (hT.2.2 4 (show 4 < 23 by decide)), (hT.2.2 5 (show 5 < 23 by decide))⟩, ⟨(hT.2.2 6 (show 6 < 23 by decide)), (hT.2.2 7 (show 7 < 23 by decide))⟩, ⟨(hT.2.2 8 (show 8 < 23 by decide)), (hT.2.2 9 (show 9 < 23 by decide)), (hT.2.2 10 (show 10 < 23 by decide))⟩⟩ hPB hp9 ht9 hv9 (hT.2.2 11 (show 11 < 23 by decide)) ((hT.2.2 12 (show 12 < 23 by decide)).trans sg_n) (hT.2.2 13 (show 13 < 23 by decide)) (hT.2.2 14 (show 14 < 23 by decide)) (hT.2.2 15 (show 15 < 23 by decide)) (hT.2.2 16 (show 16 < 23 by decide)) (hT.2.2 17 (show 17 < 23 by decide)) (hT.2.2 18 (show 18 < 23 by decide)) (hT.2.2 19 (show 19 < 23 by decide)) (hT.2.2 20 (show 20 < 23 by decide)) (hT.2.2 21 (show 21 < 23 by decide)) (hT.2.2 22 (show 22 < 23 by decide))
theorem ld_23 (h : s_X11_errorPosition_r x9 ft = 22) : s_X11_load_k x9 ft = 2 := by
  have h : s_X9_read_r x9 ft = 22 := h
  unfold s_X11_load_k
  rw [h]
  rfl
theorem pi_1 {x : Nat → Int32} {zf : Zs} (h10 : ¬ x 10 = 0) : s_X9_putInto_z x zf 1 = upd (upd (upd (upd (upd (upd (zf 1) 0 (x 3)) 1 (x 4)) 2 (x 5)) 4 (x 6)) 3 (x 11)) 5 (x 11) := by
  unfold s_X9_putInto_z
  (try dsimp only)
  rw [if_neg h10]
  rfl
theorem pi_3 {x : Nat → Int32} {zf : Zs} (h7 : ¬ x 7 = -1) (h8 : x 8 = -1) (h9 : ¬ x 9 = -1) : s_X9_putInto_z x zf 3 = upd (upd (zf 3) 0 (x 7)) 2 (x 9) := by
  unfold s_X9_putInto_z
  (try dsimp only)
  rw [if_neg h9, if_pos h8, if_neg h7]
  rfl
theorem ld_22 {z : Zs} {m a : Int32} (hzH : ∀ i, z (i + 13) = zI (i + 13)) (hm : m = a) (h9 : s_X11_errorPosition_r x9 ft = -99999 ∧ s_X9_read_w0 x9 ft = wV (x0R x9) g n l h m p t ∧ p < 1000 ∧ t ≤ 99) : s_X11_load_k x9 ft = (0 : Int32) ∧ ((0 : Int32) = 0 → s_X11_load_r x9 ft zI = a ∧ s_X11_load_z x9 ft zI z = zTold (nI g) (nI n) (nI l) (nI h) a (nI p) (nI t)) := by
  obtain ⟨e, w, hp, ht⟩ := h9
  subst hm
  have e : s_X9_read_r x9 ft = -99999 := e
  have q1 : s_X9_putInto_z (s_X9_read_w0 x9 ft) zI 1 = upd (upd (upd (upd (upd (upd (zI 1) 0 (nI g)) 1 (nI n)) 2 (nI l)) 4 (nI h)) 3 m) 5 m := by
    rw [w]
    exact pi_1 (show ¬ (1 : Int32) = 0 from one_n)
  have q3 : s_X9_putInto_z (s_X9_read_w0 x9 ft) zI 3 = upd (upd (zI 3) 0 (nI p)) 2 (nI t) := by
    rw [w]
    exact pi_3 (m1_n (k := p) (by omega)) rfl (m1_n (k := t) (by omega))
  refine ⟨?_, fun _ => ⟨?_, ?_⟩⟩
  · unfold s_X11_load_k
    rw [e, if_pos rfl]
  · show s_X9_putInto_z (s_X9_read_w0 x9 ft) zI 1 5 = m
    rw [q1]
    exact upd_at _ _ _
  · exact zs_ext (c13 rfl q1 rfl q3 rfl rfl rfl rfl rfl rfl rfl rfl rfl) (fun i => hzH i)
theorem told_GZ {a : Int32} (hb : PB g n l h) (ha : -99 ≤ a.toInt ∧ a.toInt ≤ 99) (hp : p ≤ 149) (ht : t ≤ 99) : GZ 0 (zTold (nI g) (nI n) (nI l) (nI h) a (nI p) (nI t)) := by
  obtain ⟨⟨g1, g2⟩, ⟨n1, n2⟩, l2, ⟨k1, k2⟩⟩ := hb
  have r : ∀ (k : Nat) (lo up : Int), k < 100000 → lo ≤ (k : Int) → (k : Int) ≤ up → rg (nI k) lo up := fun k lo up hk h1 h2 => by
    unfold rg
    rw [t_n (by omega)]
    exact ⟨h1, h2⟩
  have e0 : (0 : Int32).toInt = 0 := rfl
  have z0 : (0 : Int) ≤ (0 : Int32).toInt ∧ (0 : Int32).toInt ≤ 0 := ⟨by decide, by decide⟩
  have hh : (nI h).toInt = (h : Int) := t_n (by omega)
  refine ⟨z0, ⟨r g _ _ (by omega) (by omega) (by omega), r n _ _ (by omega) (by omega) (by omega), r l _ _ (by omega) (by omega) (by omega), ha, r h _ _ (by omega) (by omega) (by omega), ⟨by show -9999 ≤ a.toInt; omega, by show a.toInt ≤ 9999; omega⟩, (show rg (0 : Int32) 0 9 from ⟨by decide, by decide⟩), fun k hk => ⟨(show 0 ≤ (0 : Int32).toInt by decide), (show (0 : Int32).toInt ≤ (nI h).toInt by rw [hh, e0]; omega)⟩⟩, ?_, ?_, ⟨0, by omega, rfl, fun t ht => absurd ht (Nat.not_lt_zero _)⟩, ?_⟩
  · exact ⟨⟨r p _ _ (by omega) (by omega) (by omega), (show rg (i_X1_init_0 1) 0 20 from ⟨by decide, by decide⟩), r t _ _ (by omega) (by omega) (by omega)⟩, ⟨(show rg (i_X1_init_0 3) 0 9999 from ⟨by decide, by decide⟩), (show rg (i_X1_init_0 4) 0 9999 from ⟨by decide, by decide⟩), (show rg (i_X1_init_0 5) 0 9999 from ⟨by decide, by decide⟩)⟩, Or.inl rfl, Or.inl rfl, fun _ => rfl, (show rg (i_X1_init_0 8) (-9999) 9999 from ⟨by decide, by decide⟩), Or.inl rfl⟩
  · exact ⟨Or.inl rfl, (show rg (0 : Int32) (-9999) 9999 from ⟨by decide, by decide⟩), (show rg (0 : Int32) (-9999) 9999 from ⟨by decide, by decide⟩), 0, by omega, rfl, fun j hj => absurd hj (Nat.not_lt_zero _), fun q => absurd (show (0 : Int32) = 1 from q) (by decide)⟩
  · exact ⟨⟨(show 0 ≤ (0 : Int32).toInt by decide), (show (0 : Int32).toInt ≤ (nI h).toInt by rw [hh, e0]; omega)⟩, ⟨(show 0 ≤ (0 : Int32).toInt by decide), (show (0 : Int32).toInt ≤ (0 : Int32).toInt * (nI h).toInt by rw [e0, Int.zero_mul]; exact Int.le_refl _)⟩, z0, z0, fun q => by
      rcases q with q | q
      · exact absurd (show 0 < (0 : Int32).toInt from q) (by decide)
      · exact absurd (show (0 : Int32) = 1 from q) (by decide), rfl⟩
/-- the state behind told -/
theorem told_all {Ls : Nat} {xs : Nat → Int32} {j : Nat} : ∃ (g n l h p b t v : Nat) (a : Int32), PB g n l h ∧ p ≤ 149 ∧ b ≤ 9 ∧ t ≤ 99 ∧ v ≤ 99 ∧ (-99 ≤ a.toInt ∧ a.toInt ≤ 99) ∧ sizeF a = nI v ∧ (if ¬ 0 ≤ a then -nI v else nI v) = a ∧
    1 + (nmF Ls xs j - nmF Ls xs j / 20 * 20) = nI g ∧ 1 + (nmF Ls xs j / 4096 - nmF Ls xs j / 4096 / 12 * 12) = nI n ∧ nmF Ls xs j / 65536 - nmF Ls xs j / 65536 / 6 * 6 = nI l ∧ 20 + (nmF Ls xs j / 32 - nmF Ls xs j / 32 / 80 * 80) = nI h ∧ 60 + (nmF Ls xs (j + 1) / 256 - nmF Ls xs (j + 1) / 256 / 90 * 90) = nI p ∧ nmF Ls xs (j + 1) / 65536 - nmF Ls xs (j + 1) / 65536 / 100 * 100 = nI t ∧ nmF Ls xs (j + 1) / 65536 - nmF Ls xs (j + 1) / 65536 / 10 * 10 = nI b ∧ (nmF Ls xs (j + 1) - nmF Ls xs (j + 1) / 199 * 199) - 99 = a := by
  have hx := nm_pos Ls xs j
  have hy := nm_pos Ls xs (j + 1)
  generalize nmF Ls xs j = x at *
  generalize nmF Ls xs (j + 1) = y at *
  have e99 : (99 : Int32).toInt = 99 := rfl
  have ea : (y - y / 199 * 199) - 99 = nI (tn y % 199) - 99 := by rw [show y - y / 199 * 199 = nI (tn y % 199) from x_rem hy (d := 199) (by decide) (by decide)]
  have h199 := Nat.mod_lt (tn y) (show 0 < 199 by decide)
  have hat : (nI (tn y % 199) - 99).toInt = (tn y % 199 : Nat) - 99 := by
    generalize tn y % 199 = k at h199 ⊢
    have ek : (nI k).toInt = (k : Int) := t_n (by omega)
    have := t_sub (a := nI k) (b := 99) (by rw [ek, e99]; omega) (by rw [ek, e99]; omega)
    rw [this, ek, e99]
  obtain ⟨a, ha⟩ : ∃ a, a = nI (tn y % 199) - 99 := ⟨_, rfl⟩
  rw [← ha] at ea hat
  have hab : -99 ≤ a.toInt ∧ a.toInt ≤ 99 := by omega
  have hst := size_t (a := a) (by omega)
  obtain ⟨v, hv⟩ : ∃ v : Nat, (sizeF a).toInt = (v : Int) ∧ v ≤ 99 := ⟨(sizeF a).toInt.toNat, by rw [hst]; split <;> omega, by rw [hst]; split <;> omega⟩
  have e0 : (0 : Int32).toInt = 0 := rfl
  refine ⟨1 + tn x % 20, 1 + tn x / 4096 % 12, tn x / 65536 % 6, 20 + tn x / 32 % 80, 60 + tn y / 256 % 90, tn y / 65536 % 10, tn y / 65536 % 100, v, a, ⟨⟨by omega, by omega⟩, ⟨by omega, by omega⟩, by omega, ⟨by omega, by omega⟩⟩, by omega, by omega, by omega, hv.2, hab, ?_, ?_, ?_, ?_, ?_, ?_, ?_, ?_, ?_, ea⟩
  · rw [t_eq, hv.1, t_n (by omega)]
  · by_cases c : 0 ≤ a
    · have c' := t_le.mp c
      rw [if_neg (fun q => q c), t_eq, t_n (by omega)]
      rw [hst, if_neg (by omega)] at hv
      omega
    · have c' := mt t_le.mpr c
      have kv : (nI v).toInt = (v : Int) := t_n (by omega)
      rw [if_pos c, t_eq, t_neg (by omega), kv]
      rw [hst, if_pos (by omega)] at hv
      omega
  · rw [show x - x / 20 * 20 = nI (tn x % 20) from x_rem hx (d := 20) (by decide) (by decide)]; exact nI_add 1 _
  · rw [show x / 4096 - x / 4096 / 12 * 12 = nI (tn x / 4096 % 12) from x_dr hx (d := 4096) (e := 12) (by decide) (by decide) (by decide) (by decide)]; exact nI_add 1 _
  · exact x_dr hx (d := 65536) (e := 6) (by decide) (by decide) (by decide) (by decide)
  · rw [show x / 32 - x / 32 / 80 * 80 = nI (tn x / 32 % 80) from x_dr hx (d := 32) (e := 80) (by decide) (by decide) (by decide) (by decide)]; exact nI_add 20 _
  · rw [show y / 256 - y / 256 / 90 * 90 = nI (tn y / 256 % 90) from x_dr hy (d := 256) (e := 90) (by decide) (by decide) (by decide) (by decide)]; exact nI_add 60 _
  · exact x_dr hy (d := 65536) (e := 100) (by decide) (by decide) (by decide) (by decide)
  · exact x_dr hy (d := 65536) (e := 10) (by decide) (by decide) (by decide) (by decide)
theorem told_GR {Ls : Nat} {xs : Nat → Int32} {j : Nat} : GR 0 (tZ0 Ls xs j) := by
  obtain ⟨g, n, l, h, p, b, t, v, a, hPB, hp, hb, ht, hv, ha, -, -, eg, en, el, eh, ep, et, -, ea⟩ := told_all (Ls := Ls) (xs := xs) (j := j)
  unfold tZ0
  rw [eg, en, el, eh, ep, et, ea]
  refine ⟨⟨told_GZ hPB ha hp ht, ?_⟩, fun i => rfl⟩
  unfold TB
  show -(2100 + 0) ≤ a.toInt ∧ a.toInt ≤ 2100 + 0
  omega
set_option maxHeartbeats 4000000 in
set_option maxRecDepth 20000 in
theorem fx_told {Ls : Nat} {xs : Nat → Int32} {j : Nat} {T : List Int32} {z : Zs} {Hs : List Zs} {s0 s1 : Option Zs} (hzH : ∀ i, z (i + 13) = zI (i + 13)) : FX_told Ls xs j T z Hs s0 s1 := by
  obtain ⟨g, n, l, h, p, b, t, v, a, hPB, hp, hb, ht, hv9, ha, esz, hval, eg, en, el, eh, ep, et, eb, ea⟩ := told_all (Ls := Ls) (xs := xs) (j := j)
  have hG : GZ 0 (zTold (nI g) (nI n) (nI l) (nI h) a (nI p) (nI t)) := told_GZ hPB ha hp ht
  have hp9 : p < 1000 := by omega
  have hb9 : b ≤ 20 := by omega
  have ht9 : t ≤ 99 := ht
  have sg : ¬ (if 0 ≤ a then (43 : Int32) else (45 : Int32)) < 0 ∧ (if 0 ≤ a then (43 : Int32) else (45 : Int32)) ≤ 255 := by
    by_cases c : 0 ≤ a
    · rw [if_pos c]; decide
    · rw [if_neg c]; decide
  have sgn : (if 0 ≤ a then (43 : Int32) else (45 : Int32)) = if ¬ 0 ≤ a then (45 : Int32) else (43 : Int32) := by
    by_cases c : 0 ≤ a
    · rw [if_pos c, if_neg (fun q => q c)]
    · rw [if_neg c, if_pos c]
  have hg2 : g ≤ 20 := hPB.1.2
  have hn2 : n ≤ 12 := hPB.2.1.2
  have hl2 : l ≤ 5 := hPB.2.2.1
  have hh2 : h ≤ 99 := hPB.2.2.2.2
  unfold FX_told
  rw [eg, en, el, eh, ep, et, eb, ea, esz, show nI p - nI p / 100 * 100 = nI (p % 100) from pk_rem (a := p) (d := 100) (by omega) (by decide) (by decide)]
  rw [show (48 : Int32) + nI p / 100 = nI (48 + p / 100) by rw [show nI p / 100 = nI (p / 100) from pk_div (a := p) (d := 100) (by omega) (by decide) (by decide)]; exact nI_add 48 _, show (48 : Int32) + nI l = nI (48 + l) from nI_add 48 _]
  rw [c10 g (by omega), c1 g (by omega), c10 n (by omega), c1 n (by omega), c10 h (by omega), c1 h (by omega), c10 (p % 100) (by omega), c1 (p % 100) (by omega), c10 b (by omega), c1 b (by omega), c10 v (by omega), c1 v (by omega), c10 t (by omega), c1 t (by omega)]
  clear eg en el eh ep et eb ea

  refine ⟨rfl, ?_⟩
  simp only [List.nil_append, List.cons_append]
  refine ⟨?_, ?_, ?_, ?_, ?_, ?_, ?_, ?_, ?_, ?_, ?_, ?_, ?_, ?_, ?_, ?_, ?_, ?_, ?_, ?_, ?_, ?_, ?_, ?_, ?_, ?_, ?_, ?_, ?_, ?_, ?_, ?_, ?_, ?_, ?_, ?_, ?_, ?_, ?_, ?_, ?_, ?_, ?_, ?_, ?_, ?_, ?_, ?_, ?_, ?_, ?_, ?_, ?_, ?_, ?_, ?_, ?_, ?_, ?_, ?_, ?_, ?_, ?_, ?_, ?_, ?_, ?_, ?_⟩
  · exact (fx_put (by decide) (by decide) (show 0 < 60 by decide))
  · exact (fun x9 ft hT => tx_1 (g := g) (n := n) (l := l) (h := h) (p := p) (b := b) (t := t) (v := v) (a := a) hPB hp9 hb9 ht9 hv9 hT)
  · exact (fx_two (v := g) (by omega) (show 1 + 2 ≤ 60 by decide))
  · exact (fx_put (by decide) (by decide) (show 3 < 60 by decide))
  · exact (fx_two (v := n) (by omega) (show 4 + 2 ≤ 60 by decide))
  · exact (fun x9 ft hT => tx_6 (g := g) (n := n) (l := l) (h := h) (p := p) (b := b) (t := t) (v := v) (a := a) hPB hp9 hb9 ht9 hv9 hT)
  · exact (fx_put (by decide) (by decide) (show 6 < 60 by decide))
  · exact (fx_putn (k := 48 + l) (by omega) (show 7 < 60 by decide))
  · exact (fx_put (by decide) (by decide) (show 8 < 60 by decide))
  · exact (fun x9 ft hT => tx_9 (g := g) (n := n) (l := l) (h := h) (p := p) (b := b) (t := t) (v := v) (a := a) hPB hp9 hb9 ht9 hv9 hT)
  · exact (fx_two (v := h) (by omega) (show 9 + 2 ≤ 60 by decide))
  · exact (fun x9 ft hT => tx_11 (g := g) (n := n) (l := l) (h := h) (p := p) (b := b) (t := t) (v := v) (a := a) hPB hp9 hb9 ht9 hv9 hT)
  · exact (fx_put (by decide) (by decide) (show 11 < 60 by decide))
  · exact (fun x9 ft hT => tx_12 (g := g) (n := n) (l := l) (h := h) (p := p) (b := b) (t := t) (v := v) (a := a) hPB hp9 hb9 ht9 hv9 hT)
  · exact (fx_putn (k := 48 + p / 100) (by omega) (show 12 < 60 by decide))
  · exact (fx_two (v := p % 100) (by omega) (show 13 + 2 ≤ 60 by decide))
  · exact (fun x9 ft hT => tx_15 (g := g) (n := n) (l := l) (h := h) (p := p) (b := b) (t := t) (v := v) (a := a) hPB hp9 hb9 ht9 hv9 hT)
  · exact (fx_put (by decide) (by decide) (show 15 < 60 by decide))
  · exact (fx_two (v := b) (by omega) (show 16 + 2 ≤ 60 by decide))
  · exact (fun x9 ft hT => tx_18 (g := g) (n := n) (l := l) (h := h) (p := p) (b := b) (t := t) (v := v) (a := a) hPB hp9 hb9 ht9 hv9 hT)
  · exact (fx_put (by decide) (by decide) (show 18 < 60 by decide))
  · exact (fun x9 ft hT => tx_19 (g := g) (n := n) (l := l) (h := h) (p := p) (b := b) (t := t) (v := v) (a := a) hPB hp9 hb9 ht9 hv9 hT)
  · exact rfl
  · exact rfl
  · exact (fx_put (by decide) (by decide) (show 0 < 60 by decide))
  · exact (fx_two (v := g) (by omega) (show 1 + 2 ≤ 60 by decide))
  · exact (fx_put (by decide) (by decide) (show 3 < 60 by decide))
  · exact (fx_two (v := n) (by omega) (show 4 + 2 ≤ 60 by decide))
  · exact (fx_put (by decide) (by decide) (show 6 < 60 by decide))
  · exact (fx_putn (k := 48 + l) (by omega) (show 7 < 60 by decide))
  · exact (fx_put (by decide) (by decide) (show 8 < 60 by decide))
  · exact (fx_two (v := h) (by omega) (show 9 + 2 ≤ 60 by decide))
  · exact (fx_put (by decide) (by decide) (show 11 < 60 by decide))
  · exact (fx_put sg.1 sg.2 (show 12 < 60 by decide))
  · exact (fun x9 ft hT => tx_13 (g := g) (n := n) (l := l) (h := h) (p := p) (b := b) (t := t) (v := v) (a := a) hPB hp9 hb9 ht9 hv9 hT)
  · exact (fx_two (v := v) (by omega) (show 13 + 2 ≤ 60 by decide))
  · exact (fx_put (by decide) (by decide) (show 15 < 60 by decide))
  · exact (fx_putn (k := 48 + p / 100) (by omega) (show 16 < 60 by decide))
  · exact (fx_two (v := p % 100) (by omega) (show 17 + 2 ≤ 60 by decide))
  · exact (fx_put (by decide) (by decide) (show 19 < 60 by decide))
  · exact (fx_two (v := t) (by omega) (show 20 + 2 ≤ 60 by decide))
  · exact (fun x9 ft hT => (tx_22 (g := g) (n := n) (l := l) (h := h) (p := p) (b := b) (t := t) (v := v) (a := a) hPB hp9 hb9 ht9 hv9 hT).1)
  · exact (fun x9 ft hT => (fun q => ⟨q.1, fun _ => q.2 rfl⟩) (ld_22 hzH hval (tx_22 (g := g) (n := n) (l := l) (h := h) (p := p) (b := b) (t := t) (v := v) (a := a) hPB hp9 hb9 ht9 hv9 hT)))
  · exact hG.ts
  · exact rfl
  · exact (fun x9 ft hT => (fun q => ⟨q.1, fun _ => q.2 rfl⟩) (ld_22 hzH hval (tx_22 (g := g) (n := n) (l := l) (h := h) (p := p) (b := b) (t := t) (v := v) (a := a) hPB hp9 hb9 ht9 hv9 hT)))
  · exact hG.ts
  · exact rfl
  · exact rfl
  · exact rfl
  · exact rfl
  · exact rfl
  · exact rfl
  · exact rfl
  · exact (by decide)
  · exact rfl
  · exact (by decide)
  · exact rfl
  · exact (fx_put (by decide) (by decide) (show 22 < 60 by decide))
  · exact (fun x9 ft hT => tx_23 (g := g) (n := n) (l := l) (h := h) (p := p) (b := b) (t := t) (v := v) (a := a) hPB hp9 hb9 ht9 hv9 hT)
  · exact (fun x9 ft hT => ⟨ld_23 (tx_23 (g := g) (n := n) (l := l) (h := h) (p := p) (b := b) (t := t) (v := v) (a := a) hPB hp9 hb9 ht9 hv9 hT), fun q => absurd q (by decide)⟩)
  · exact rfl
  · exact rfl
  · exact (mode_GZ hG (by decide)).ts
  · exact rfl
  · exact rfl
  · exact (mode_GZ hG (by decide)).ts
  · exact rfl
end FXT

section TEXT5
variable {x X fc fR fr g xs Xs g0 : Nat → Int32} {L p n m : Nat}
theorem paA_1 : paA 1 X fR = s_X12_readAmbient_r X fR := if_pos rfl
theorem paX_1 : paX 1 X fR = s_X12_readAmbient_w0 X fR := if_pos rfl
theorem paF_1 : paF 1 X fR g = s_X12_readAmbient_w2 X fR g := if_pos rfl
theorem paA_2 : paA 2 X fR = ruR 0 999 fR 3 0 X := by
  unfold paA
  rw [if_neg (by decide), if_pos rfl, puR3]
theorem paX_2 : paX 2 X fR = ruW 0 999 fR 3 0 X := by
  unfold paX
  rw [if_neg (by decide), if_pos rfl, puW3]
theorem paF_2 : paF 2 X fR g = ruF 0 999 fR g 5 3 0 X := by
  unfold paF
  rw [if_neg (by decide), if_pos rfl, puF3]
theorem paA_4 : paA 4 X fR = ruR 0 20 fR 2 0 X := by
  unfold paA
  rw [if_neg (by decide), if_neg (by decide), if_pos rfl, puR2]
theorem paX_4 : paX 4 X fR = ruW 0 20 fR 2 0 X := by
  unfold paX
  rw [if_neg (by decide), if_neg (by decide), if_pos rfl, puW2]
theorem paF_4 : paF 4 X fR g = ruF 0 20 fR g 6 2 0 X := by
  unfold paF
  rw [if_neg (by decide), if_neg (by decide), if_pos rfl, puF2]
theorem paA_8 : paA 8 X fR = ruR 0 99 fR 2 0 X := by
  unfold paA
  rw [if_neg (by decide), if_neg (by decide), if_neg (by decide), puR2]
theorem paX_8 : paX 8 X fR = ruW 0 99 fR 2 0 X := by
  unfold paX
  rw [if_neg (by decide), if_neg (by decide), if_neg (by decide), puW2]
theorem paF_8 : paF 8 X fR g = ruF 0 99 fR g 7 2 0 X := by
  unfold paF
  rw [if_neg (by decide), if_neg (by decide), if_neg (by decide), puF2]
theorem lp_end (ht : tpR L p x X) (hp : ¬ p < L) (hb : tpB L fc fR) {a b c d : Bool} {t : Int32} (hX : ∀ i, i ≠ 3 → X i = Xs i) (hs : prS xs g0 a b c d x g) : lpQ L Xs xs g0 (RA fR (m + 1) t X g) (rdR fc n x) (rdW fc n x) := by
  have hL := hb.1
  obtain ⟨h1, h2, h3, h4, h5⟩ := ht
  have k1 : (X 2) ≤ (X 3) := by
    rw [h3, h4]
    exact (nI_leI (by omega) (by omega)).mpr (by omega)
  have k2 : (x 1) ≤ (x 2) := by
    rw [h1, h2]
    exact (nI_leI (by omega) (by omega)).mpr (by omega)
  obtain ⟨e1, e2⟩ := rd_end (fc := fc) k2 n
  rw [RA_end k1, e1, e2]
  exact ⟨h1, hX, Or.inr ⟨rfl, rfl, a, b, c, d, g, rfl, hs⟩⟩
theorem lp_stop (ht : tpR L p x X) (hX : ∀ i, i ≠ 3 → X i = Xs i) (k2 : ¬ (x 1) ≤ (x 2)) (hs : s_X9_readPart_r x fc = 0 ∧ s_X9_readPart_w0 x fc = x) : lpQ L Xs xs g0 (0, X, g) (rdR fc n x) (rdW fc n x) := by
  obtain ⟨e1, e2⟩ := rd_stop (fc := fc) k2 hs n
  obtain ⟨h1, h2, h3, h4, h5⟩ := ht
  rw [e1, e2]
  exact ⟨h1, hX, Or.inl ⟨rfl, p, h5, h2, h4⟩⟩
theorem lp_fail {w v v2 : Nat → Int32} {q : Nat} (ht : tpR L q w v) (hX : ∀ i, i ≠ 3 → v i = Xs i) (k2 : ¬ (x 1) ≤ (x 2)) (h0 : s_X9_readPart_r x fc = 0) (hw : s_X9_readPart_w0 x fc = w) : lpQ L Xs xs g0 (0, v, v2) (rdR fc (n + 1) x) (rdW fc (n + 1) x) := by
  obtain ⟨e1, e2⟩ := rd_fail (fc := fc) (n := n) k2 h0
  obtain ⟨h1, h2, h3, h4, h5⟩ := ht
  rw [e1, e2, hw]
  exact ⟨h1, hX, Or.inl ⟨rfl, q, h5, h2, h4⟩⟩
set_option maxHeartbeats 400000 in
theorem loop_rel (hb : tpB L fc fR) : ∀ (n m : Nat) (a b c d : Bool) (p : Nat) (x X g : Nat → Int32), cn a b c d = n → n < m → tpR L p x X → (∀ i, i ≠ 3 → X i = Xs i) → prS xs g0 a b c d x g → lpQ L Xs xs g0 (RA fR m (td a b c d) X g) (rdR fc n x) (rdW fc n x)
  | _, 0, _, _, _, _, _, _, _, _, _, hm, _, _, _ => absurd hm (Nat.not_lt_zero _)
  | n, m + 1, a, b, c, d, p, x, X, g, hn, hm, ht, hX, hs => by
    by_cases hp : p < L
    · have hL := hb.1
      have c1 : ¬ (X 2) ≤ (X 3) := by
        rw [ht.2.2.1, ht.2.2.2.1]
        exact mt (nI_leI (by omega) (by omega)).mp (by omega)
      have c2 : ¬ (x 1) ≤ (x 2) := by
        rw [ht.1, ht.2.1]
        exact mt (nI_leI (by omega) (by omega)).mp (by omega)
      have et : tn (X 3) = p := tn_of ht.2.2.2.1 (by omega)
      have e1 := here_r (a := 65) hb ht hp
      have e2 := here_r (a := 83) hb ht hp
      have e3 := here_r (a := 66) hb ht hp
      have e4 := here_r (a := 84) hb ht hp
      have hs0 := hs
      obtain ⟨sA, sI, sB, sC, sD, sx, sg⟩ := hs
      by_cases k1 : fR p = 65
      · rw [k1] at e1 e2 e3 e4
        rw [if_pos rfl] at e1
        rw [if_neg (by decide)] at e2
        rw [if_neg (by decide)] at e3
        rw [if_neg (by decide)] at e4
        have ew : (1 : Int32) = whG (fR (tn (X 3))) := by
          rw [et, k1]
          rfl
        obtain ⟨p1, p2⟩ := part_A e1 e2 e3 e4
        rcases sA with ⟨hbit, v0, u0⟩ | ⟨hbit, v0, u0⟩
        · subst hbit
          rw [if_pos v0] at p1 p2
          have hc := cn_1 b c d
          obtain ⟨n', rfl⟩ : ∃ n', n = n' + 1 := ⟨cn true b c d, by omega⟩
          have t1 : tpR L (p + 1) (upd x 2 ((x 2) + 1)) (upd X 3 ((X 3) + 1)) := ⟨(upd_ne (by decide)).trans ht.1, by rw [upd_at, ht.2.1]; exact nI_add p 1, (upd_ne (by decide)).trans ht.2.2.1, by rw [upd_at, ht.2.2.2.1]; exact nI_add p 1, hp⟩
          obtain ⟨⟨q, hq, t2⟩, f1, f2, dd⟩ := amb_rel (g := g) hb t1
          have f2' : ∀ i, i ≠ 3 → s_X12_readAmbient_w0 (upd X 3 ((X 3) + 1)) fR i = Xs i := fun i hi => (f2 i hi).trans ((upd_ne hi).trans (hX i hi))
          rcases dd with ⟨r1, z1⟩ | ⟨r1, z1, w10, w11, wg⟩
          · rw [RA_no3 c1 ew (by decide) (td_1f b c d) (paA_1.trans z1), paX_1]
            exact lp_fail t2 f2' c2 (p1.trans r1) p2
          · rw [RA_go c1 ew (by decide) (td_1f b c d) (by rw [paA_1, z1]; decide), td_1o, paX_1, paF_1, wg]
            obtain ⟨g1, g2⟩ := rd_go (fc := fc) (n := n') c2 (by rw [p1, r1]; decide)
            rw [g1, g2, p2]
            refine loop_rel hb n' m true b c d q _ _ _ (by omega) (by omega) t2 f2' ?_
            refine ⟨Or.inr ⟨rfl, w10, upd_at _ _ _⟩, by rw [upd_at]; exact w11, ?_, ?_, ?_, fun i h1 h2 => (f1 i (by omega) (by omega) (by omega)).trans (sx i h1 h2), fun j h1 h2 h3 h4 => (upd_ne h1).trans (sg j h1 h2 h3 h4)⟩
            · rw [f1 7 (by decide) (by decide) (by decide), upd_ne (by decide)]; exact sB
            · rw [f1 8 (by decide) (by decide) (by decide), upd_ne (by decide)]; exact sC
            · rw [f1 9 (by decide) (by decide) (by decide), upd_ne (by decide)]; exact sD
        · subst hbit
          have n0 : ¬ x 10 = 0 := by rw [v0]; decide
          rw [if_neg n0] at p1 p2
          rw [RA_no2 c1 ew (by decide) (td_1t b c d)]
          exact lp_stop ht hX c2 ⟨p1, p2⟩
      by_cases k2 : fR p = 83
      · rw [k2] at e1 e2 e3 e4
        rw [if_neg (by decide)] at e1
        rw [if_pos rfl] at e2
        rw [if_neg (by decide)] at e3
        rw [if_neg (by decide)] at e4
        have ew : (2 : Int32) = whG (fR (tn (X 3))) := by
          rw [et, k2]
          rfl
        obtain ⟨p1, p2⟩ := part_S e1 e2 e3 e4
        rcases sB with ⟨hbit, v0, u0⟩ | ⟨hbit, v0, u0⟩
        · subst hbit
          rw [if_pos v0] at p1 p2
          have hc := cn_2 a c d
          obtain ⟨n', rfl⟩ : ∃ n', n = n' + 1 := ⟨cn a true c d, by omega⟩
          obtain ⟨⟨q, hq, t2⟩, f1, f2, dd⟩ := st_num (lo := 0) (hi := 999) (k := 3) (g := g) (pl := 5) hb ht hp k2 (by decide) (by decide)
          have t3 : tpR L q (upd (lbW 83 0 999 fc 3 x) 7 (lbR 83 0 999 fc 3 x)) (ruW 0 999 fR 3 0 (upd X 3 (X 3 + 1))) := ⟨(upd_ne (by decide)).trans t2.1, (upd_ne (by decide)).trans t2.2.1, t2.2.2⟩
          have f2' : ∀ i, i ≠ 3 → ruW 0 999 fR 3 0 (upd X 3 (X 3 + 1)) i = Xs i := fun i hi => (f2 i hi).trans (hX i hi)
          rcases dd with ⟨r1, z1⟩ | ⟨R, hR, r1, z1, wg, b1, b2⟩
          · rw [RA_no3 c1 ew (by decide) (td_2f a c d) (paA_2.trans z1), paX_2]
            exact lp_fail t3 f2' c2 (p1.trans (if_pos r1)) p2
          · have n1 : ¬ lbR 83 0 999 fc 3 x = -1 := by rw [r1]; exact nI_m1 hR
            rw [RA_go c1 ew (by decide) (td_2f a c d) (by rw [paA_2, z1]; decide), td_2o, paX_2, paF_2, wg]
            obtain ⟨g1, g2⟩ := rd_go (fc := fc) (n := n') c2 (by rw [p1, if_neg n1]; decide)
            rw [g1, g2, p2]
            refine loop_rel hb n' m a true c d q _ _ _ (by omega) (by omega) t3 f2' ?_
            refine ⟨?_, by rw [upd_ne (by decide)]; exact sI, ?_, ?_, ?_, fun i h1 h2 => (upd_ne (by omega)).trans ((f1 i (by omega)).trans (sx i h1 h2)), fun j h1 h2 h3 h4 => (upd_ne (by omega)).trans (sg j h1 h2 h3 h4)⟩
            · rw [upd_ne (by decide), f1 10 (by decide), upd_ne (by decide), f1 11 (by decide), upd_ne (by decide)]; exact sA
            · exact Or.inr ⟨rfl, by rw [upd_at]; exact n1, by rw [upd_at, upd_at]; exact r1.symm⟩
            · rw [upd_ne (by decide), f1 8 (by decide), upd_ne (by decide)]; exact sC
            · rw [upd_ne (by decide), f1 9 (by decide), upd_ne (by decide)]; exact sD
        · subst hbit
          have n0 := v0
          rw [if_neg n0] at p1 p2
          rw [RA_no2 c1 ew (by decide) (td_2t a c d)]
          exact lp_stop ht hX c2 ⟨p1, p2⟩
      by_cases k3 : fR p = 66
      · rw [k3] at e1 e2 e3 e4
        rw [if_neg (by decide)] at e1
        rw [if_neg (by decide)] at e2
        rw [if_pos rfl] at e3
        rw [if_neg (by decide)] at e4
        have ew : (4 : Int32) = whG (fR (tn (X 3))) := by
          rw [et, k3]
          rfl
        obtain ⟨p1, p2⟩ := part_B e1 e2 e3 e4
        rcases sC with ⟨hbit, v0, u0⟩ | ⟨hbit, v0, u0⟩
        · subst hbit
          rw [if_pos v0] at p1 p2
          have hc := cn_4 a b d
          obtain ⟨n', rfl⟩ : ∃ n', n = n' + 1 := ⟨cn a b true d, by omega⟩
          obtain ⟨⟨q, hq, t2⟩, f1, f2, dd⟩ := st_num (lo := 0) (hi := 20) (k := 2) (g := g) (pl := 6) hb ht hp k3 (by decide) (by decide)
          have t3 : tpR L q (upd (lbW 66 0 20 fc 2 x) 8 (lbR 66 0 20 fc 2 x)) (ruW 0 20 fR 2 0 (upd X 3 (X 3 + 1))) := ⟨(upd_ne (by decide)).trans t2.1, (upd_ne (by decide)).trans t2.2.1, t2.2.2⟩
          have f2' : ∀ i, i ≠ 3 → ruW 0 20 fR 2 0 (upd X 3 (X 3 + 1)) i = Xs i := fun i hi => (f2 i hi).trans (hX i hi)
          rcases dd with ⟨r1, z1⟩ | ⟨R, hR, r1, z1, wg, b1, b2⟩
          · rw [RA_no3 c1 ew (by decide) (td_4f a b d) (paA_4.trans z1), paX_4]
            exact lp_fail t3 f2' c2 (p1.trans (if_pos r1)) p2
          · have n1 : ¬ lbR 66 0 20 fc 2 x = -1 := by rw [r1]; exact nI_m1 hR
            rw [RA_go c1 ew (by decide) (td_4f a b d) (by rw [paA_4, z1]; decide), td_4o, paX_4, paF_4, wg]
            obtain ⟨g1, g2⟩ := rd_go (fc := fc) (n := n') c2 (by rw [p1, if_neg n1]; decide)
            rw [g1, g2, p2]
            refine loop_rel hb n' m a b true d q _ _ _ (by omega) (by omega) t3 f2' ?_
            refine ⟨?_, by rw [upd_ne (by decide)]; exact sI, ?_, ?_, ?_, fun i h1 h2 => (upd_ne (by omega)).trans ((f1 i (by omega)).trans (sx i h1 h2)), fun j h1 h2 h3 h4 => (upd_ne (by omega)).trans (sg j h1 h2 h3 h4)⟩
            · rw [upd_ne (by decide), f1 10 (by decide), upd_ne (by decide), f1 11 (by decide), upd_ne (by decide)]; exact sA
            · rw [upd_ne (by decide), f1 7 (by decide), upd_ne (by decide)]; exact sB
            · exact Or.inr ⟨rfl, by rw [upd_at]; exact n1, by rw [upd_at, upd_at]; exact r1.symm⟩
            · rw [upd_ne (by decide), f1 9 (by decide), upd_ne (by decide)]; exact sD
        · subst hbit
          have n0 := v0
          rw [if_neg n0] at p1 p2
          rw [RA_no2 c1 ew (by decide) (td_4t a b d)]
          exact lp_stop ht hX c2 ⟨p1, p2⟩
      by_cases k4 : fR p = 84
      · rw [k4] at e1 e2 e3 e4
        rw [if_neg (by decide)] at e1
        rw [if_neg (by decide)] at e2
        rw [if_neg (by decide)] at e3
        rw [if_pos rfl] at e4
        have ew : (8 : Int32) = whG (fR (tn (X 3))) := by
          rw [et, k4]
          rfl
        obtain ⟨p1, p2⟩ := part_T e1 e2 e3 e4
        rcases sD with ⟨hbit, v0, u0⟩ | ⟨hbit, v0, u0⟩
        · subst hbit
          rw [if_pos v0] at p1 p2
          have hc := cn_8 a b c
          obtain ⟨n', rfl⟩ : ∃ n', n = n' + 1 := ⟨cn a b c true, by omega⟩
          obtain ⟨⟨q, hq, t2⟩, f1, f2, dd⟩ := st_num (lo := 0) (hi := 99) (k := 2) (g := g) (pl := 7) hb ht hp k4 (by decide) (by decide)
          have t3 : tpR L q (upd (lbW 84 0 99 fc 2 x) 9 (lbR 84 0 99 fc 2 x)) (ruW 0 99 fR 2 0 (upd X 3 (X 3 + 1))) := ⟨(upd_ne (by decide)).trans t2.1, (upd_ne (by decide)).trans t2.2.1, t2.2.2⟩
          have f2' : ∀ i, i ≠ 3 → ruW 0 99 fR 2 0 (upd X 3 (X 3 + 1)) i = Xs i := fun i hi => (f2 i hi).trans (hX i hi)
          rcases dd with ⟨r1, z1⟩ | ⟨R, hR, r1, z1, wg, b1, b2⟩
          · rw [RA_no3 c1 ew (by decide) (td_8f a b c) (paA_8.trans z1), paX_8]
            exact lp_fail t3 f2' c2 (p1.trans (if_pos r1)) p2
          · have n1 : ¬ lbR 84 0 99 fc 2 x = -1 := by rw [r1]; exact nI_m1 hR
            rw [RA_go c1 ew (by decide) (td_8f a b c) (by rw [paA_8, z1]; decide), td_8o, paX_8, paF_8, wg]
            obtain ⟨g1, g2⟩ := rd_go (fc := fc) (n := n') c2 (by rw [p1, if_neg n1]; decide)
            rw [g1, g2, p2]
            refine loop_rel hb n' m a b c true q _ _ _ (by omega) (by omega) t3 f2' ?_
            refine ⟨?_, by rw [upd_ne (by decide)]; exact sI, ?_, ?_, ?_, fun i h1 h2 => (upd_ne (by omega)).trans ((f1 i (by omega)).trans (sx i h1 h2)), fun j h1 h2 h3 h4 => (upd_ne (by omega)).trans (sg j h1 h2 h3 h4)⟩
            · rw [upd_ne (by decide), f1 10 (by decide), upd_ne (by decide), f1 11 (by decide), upd_ne (by decide)]; exact sA
            · rw [upd_ne (by decide), f1 7 (by decide), upd_ne (by decide)]; exact sB
            · rw [upd_ne (by decide), f1 8 (by decide), upd_ne (by decide)]; exact sC
            · exact Or.inr ⟨rfl, by rw [upd_at]; exact n1, by rw [upd_at, upd_at]; exact r1.symm⟩
        · subst hbit
          have n0 := v0
          rw [if_neg n0] at p1 p2
          rw [RA_no2 c1 ew (by decide) (td_8t a b c)]
          exact lp_stop ht hX c2 ⟨p1, p2⟩
      rw [if_neg k1] at e1
      rw [if_neg k2] at e2
      rw [if_neg k3] at e3
      rw [if_neg k4] at e4
      have ew : (0 : Int32) = whG (fR (tn (X 3))) := by
        rw [et]
        unfold whG
        rw [if_neg k1, if_neg k2, if_neg k3, if_neg k4]
      rw [RA_no1 c1 ew rfl]
      exact lp_stop ht hX c2 (part_0 e1 e2 e3 e4)
    · exact lp_end ht hp hb hX hs
end TEXT5

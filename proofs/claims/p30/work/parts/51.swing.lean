/-! ===== what the swings keep ===== -/
section SWG
variable {fp fh fl fe w : Nat → Int32} {n : Nat} {C C' : Int}
theorem SW.mono (h : SW fp fh fl fe n C) (hc : C ≤ C') : SW fp fh fl fe n C' := fun j hj => by
  obtain ⟨⟨h1, h2⟩, h3, ⟨h4, h5⟩, h6⟩ := h j hj
  exact ⟨⟨h1, by omega⟩, h3, ⟨h4, by omega⟩, h6⟩
theorem GW.mono (h : GW w fp fh fl fe C) (hc : C ≤ C') : GW w fp fh fl fe C' := by
  obtain ⟨h1, h2, h3, n, h4, h5, h6, h7⟩ := h
  exact ⟨h1, h2, h3, n, h4, h5, h6.mono hc, fun q => by
    obtain ⟨k1, k2, k3⟩ := h7 q
    exact ⟨k1, by omega, k3⟩⟩
theorem cnt_t {n : Nat} (h : n ≤ 20) (e : w 0 = nI n) : (w 0).toInt = (n : Int) := by rw [e]; exact t_n (by omega)
theorem SW.ends (h : SW fp fh fl fe n C) {i : Nat} : ∀ k, i + k < n → (fe i).toInt ≤ (fe (i + k)).toInt
  | 0, _ => Int.le_refl _
  | k + 1, hk => by
    have h1 := SW.ends h (i := i) k (by omega)
    obtain ⟨⟨q1, -⟩, -, -, q2⟩ := h (i + (k + 1)) hk
    have q3 := q2 (by omega)
    have e : i + (k + 1) - 1 = i + k := by omega
    rw [e] at q3
    omega
/-- one swing is forgotten -/
theorem SW.drop (h : SW fp fh fl fe n C) {j : Nat} (hj : j < n) : SW (drJ j (n - 1) fp) (drJ j (n - 1) fh) (drJ j (n - 1) fl) (drJ j (n - 1) fe) (n - 1) C := by
  intro i hi
  by_cases c : j ≤ i
  · have e : ∀ f : Nat → Int32, drJ j (n - 1) f i = f (i + 1) := fun f => if_pos ⟨c, hi⟩
    rw [e, e, e, e]
    obtain ⟨h1, h2, h3, h4⟩ := h (i + 1) (by omega)
    refine ⟨h1, h2, h3, fun q => ?_⟩
    have h5 := h4 (by omega)
    have e2 : i + 1 - 1 = i := by omega
    rw [e2] at h5
    by_cases c2 : j ≤ i - 1
    · rw [show drJ j (n - 1) fe (i - 1) = fe (i - 1 + 1) from if_pos ⟨c2, by omega⟩, show i - 1 + 1 = i by omega]
      exact h5
    · rw [show drJ j (n - 1) fe (i - 1) = fe (i - 1) from if_neg (by omega)]
      have h6 := SW.ends h (i := i - 1) 1 (by omega)
      rw [show i - 1 + 1 = i by omega] at h6
      omega
  · have e : ∀ f : Nat → Int32, drJ j (n - 1) f i = f i := fun f => if_neg (by omega)
    rw [e, e, e, e]
    obtain ⟨h1, h2, h3, h4⟩ := h i (by omega)
    refine ⟨h1, h2, h3, fun q => ?_⟩
    rw [show drJ j (n - 1) fe (i - 1) = fe (i - 1) from if_neg (by omega)]
    exact h4 q
/-- the last one's end behind it -/
theorem SW.dropEnd (h : SW fp fh fl fe n C) {j : Nat} (hj : j < n) (hn : 0 < n - 1) : (drJ j (n - 1) fe (n - 1 - 1)).toInt ≤ (fe (n - 1)).toInt := by
  by_cases c : j ≤ n - 1 - 1
  · rw [show drJ j (n - 1) fe (n - 1 - 1) = fe (n - 1 - 1 + 1) from if_pos ⟨c, by omega⟩, show n - 1 - 1 + 1 = n - 1 by omega]
    exact Int.le_refl _
  · rw [show drJ j (n - 1) fe (n - 1 - 1) = fe (n - 1 - 1) from if_neg (by omega)]
    have h6 := SW.ends h (i := n - 1 - 1) 1 (by omega)
    rw [show n - 1 - 1 + 1 = n - 1 by omega] at h6
    exact h6
theorem dropX {a : Int32} {j : Nat} (hw : w 0 = nI n) (hn : n ≤ 20) (ha : a = nI j) (hj : j < n) : s_X8_drop_w0 a w = upd w 0 (nI (n - 1)) ∧ ∀ f, (s_X8_drop_w1 a w f = drJ j (n - 1) f) ∧ (s_X8_drop_w2 a w f = drJ j (n - 1) f) ∧ (s_X8_drop_w3 a w f = drJ j (n - 1) f) ∧ (s_X8_drop_w4 a w f = drJ j (n - 1) f) := by
  have a0 : ¬ a < 0 := fun q => by
    have := t_lt.mp q
    rw [ha, t_n (by omega)] at this
    have e0 : (0 : Int32).toInt = 0 := rfl
    omega
  have a1 : a < w 0 := by rw [ha, hw]; exact (nI_ltI (by omega) (by omega)).mpr hj
  have e1 : w 0 - 1 = nI (n - 1) := by rw [hw]; exact pk_sub (a := n) (b := 1) (by omega)
  have e2 : tn a = j := by rw [ha]; exact nI_clamp (by omega)
  have e3 : tn (w 0) = n := by rw [hw]; exact nI_clamp (by omega)
  refine ⟨by unfold s_X8_drop_w0; rw [if_neg a0, if_pos a1, e1], fun f => ⟨?_, ?_, ?_, ?_⟩⟩
  · unfold s_X8_drop_w1; rw [if_neg a0, if_pos a1, e2, e3]
  · unfold s_X8_drop_w2; rw [if_neg a0, if_pos a1, e2, e3]
  · unfold s_X8_drop_w3; rw [if_neg a0, if_pos a1, e2, e3]
  · unfold s_X8_drop_w4; rw [if_neg a0, if_pos a1, e2, e3]
/-- a swing put behind the others, of which there are fewer than 20 -/
theorem SW.push (h : SW fp fh fl fe n C) {p hi lo : Int32} {c : Int32} (hc : c.toInt = C) (hp : 1 ≤ p.toInt ∧ p.toInt ≤ C) (hl : -9999 ≤ lo.toInt ∧ lo.toInt ≤ hi.toInt ∧ hi.toInt ≤ 9999) (he : 0 < n → (fe (n - 1)).toInt + p.toInt ≤ C) (h0 : 0 ≤ C) : SW (upd fp n p) (upd fh n hi) (upd fl n lo) (upd fe n c) (n + 1) C := by
  intro j hj
  by_cases e : j = n
  · subst e
    rw [upd_at, upd_at, upd_at, upd_at, hc]
    refine ⟨hp, hl, ⟨h0, Int.le_refl _⟩, fun q => ?_⟩
    rw [upd_ne (by omega)]
    exact he q
  · rw [upd_ne e, upd_ne e, upd_ne e, upd_ne e]
    obtain ⟨h1, h2, h3, h4⟩ := h j (by omega)
    refine ⟨h1, h2, h3, fun q => ?_⟩
    rw [upd_ne (by omega)]
    exact h4 q
/-- add: what it makes of the swings -/
theorem add_GW {c : Int32} (hn : n ≤ 20) (hw : w 0 = nI n) (h : SW fp fh fl fe n C) (hc : c.toInt = C) (hC : C < 2000000000) (hb : 0 ≤ (w 7).toInt ∧ (w 7).toInt < C) (hbe : 0 < n → (fe (n - 1)).toInt ≤ (w 7).toInt) (hl : -9999 ≤ (w 9).toInt ∧ (w 9).toInt ≤ (w 8).toInt ∧ (w 8).toInt ≤ 9999) :
    ∃ m, m ≤ 20 ∧ m ≤ n + 1 ∧ s_X8_add_w0 w 0 = nI m ∧ (∀ j, j ≠ 0 → s_X8_add_w0 w j = w j) ∧ SW (s_X8_add_w1 c w fp) (s_X8_add_w2 w fh) (s_X8_add_w3 w fl) (s_X8_add_w4 c w fe) m C ∧ 0 < m ∧ (s_X8_add_w4 c w fe (m - 1)).toInt = C := by
  have ep : ∀ b : Int32, b = w 7 → (c - b).toInt = C - (w 7).toInt := fun b eb => by rw [eb, t_sub (by omega) (by omega), hc]
  -- what stands once the oldest is forgotten, if there are 20
  have key : ∀ (w' fp' fh' fl' fe' : Nat → Int32) (k : Nat), k < 20 → w' 0 = nI k → (∀ j, j ≠ 0 → w' j = w j) → SW fp' fh' fl' fe' k C → (0 < k → (fe' (k - 1)).toInt ≤ (w 7).toInt) →
      (if w' 0 < 0 then w' else (if 20 ≤ w' 0 then w' else upd w' 0 (w' 0 + 1))) 0 = nI (k + 1) ∧ (∀ j, j ≠ 0 → (if w' 0 < 0 then w' else (if 20 ≤ w' 0 then w' else upd w' 0 (w' 0 + 1))) j = w j) ∧
      SW (if w' 0 < 0 then fp' else (if 20 ≤ w' 0 then fp' else upd fp' (tn (w' 0)) (c - w' 7))) (if w' 0 < 0 then fh' else (if 20 ≤ w' 0 then fh' else upd fh' (tn (w' 0)) (w' 8))) (if w' 0 < 0 then fl' else (if 20 ≤ w' 0 then fl' else upd fl' (tn (w' 0)) (w' 9))) (if w' 0 < 0 then fe' else (if 20 ≤ w' 0 then fe' else upd fe' (tn (w' 0)) c)) (k + 1) C ∧ ((if w' 0 < 0 then fe' else (if 20 ≤ w' 0 then fe' else upd fe' (tn (w' 0)) c)) (k + 1 - 1)).toInt = C := by
    intro w' fp' fh' fl' fe' k hk e0 ej hsw hen
    have n0 : ¬ w' 0 < 0 := fun q => by
      have := t_lt.mp q
      rw [e0, t_n (by omega)] at this
      have e9 : (0 : Int32).toInt = 0 := rfl
      omega
    have n1 : ¬ 20 ≤ w' 0 := fun q => by
      rw [e0] at q
      exact absurd ((nI_leI (a := 20) (b := k) (by omega) (by omega)).mp q) (by omega)
    have et : tn (w' 0) = k := by rw [e0]; exact nI_clamp (by omega)
    have ea : w' 0 + 1 = nI (k + 1) := by rw [e0]; exact nI_add k 1
    rw [if_neg n0, if_neg n1, if_neg n0, if_neg n1, if_neg n0, if_neg n1, if_neg n0, if_neg n1, if_neg n0, if_neg n1, et, ea]
    refine ⟨upd_at _ _ _, fun j hj => (upd_ne hj).trans (ej j hj), ?_, by rw [show k + 1 - 1 = k by omega, upd_at]; exact hc⟩
    have e7 := ep (w' 7) (ej 7 (by decide))
    refine hsw.push hc ?_ ?_ ?_ (by omega)
    · rw [e7]; omega
    · rw [ej 8 (by decide), ej 9 (by decide)]; exact hl
    · intro q
      rw [e7]
      have := hen q
      omega
  by_cases c20 : w 0 < 20
  · have hn2 : n < 20 := by rw [hw] at c20; exact (nI_ltI (b := 20) (by omega) (by omega)).mp c20
    obtain ⟨k1, k2, k3, k4⟩ := key w fp fh fl fe n hn2 hw (fun _ _ => rfl) h hbe
    refine ⟨n + 1, by omega, Nat.le_refl _, ?_, ?_, ?_, by omega, ?_⟩
    · unfold s_X8_add_w0; (try dsimp only); rw [if_pos c20]; exact k1
    · intro j hj; unfold s_X8_add_w0; (try dsimp only); rw [if_pos c20]; exact k2 j hj
    · unfold s_X8_add_w1 s_X8_add_w2 s_X8_add_w3 s_X8_add_w4; (try dsimp only); rw [if_pos c20, if_pos c20, if_pos c20, if_pos c20, if_pos c20]; exact k3
    · unfold s_X8_add_w4; (try dsimp only); rw [if_pos c20, if_pos c20]; exact k4
  · have hn2 : n = 20 := by
      rw [hw] at c20
      have := mt (nI_ltI (a := n) (b := 20) (by omega) (by omega)).mpr c20
      omega
    subst hn2
    obtain ⟨d0, d1⟩ := dropX (a := 0) (j := 0) hw hn rfl (by omega)
    obtain ⟨k1, k2, k3, k4⟩ := key (upd w 0 (nI 19)) (drJ 0 19 fp) (drJ 0 19 fh) (drJ 0 19 fl) (drJ 0 19 fe) 19 (by omega) (upd_at _ _ _) (fun j hj => upd_ne hj) (h.drop (by omega)) (fun q => Int.le_trans (h.dropEnd (by omega) (by omega)) (hbe (by omega)))
    refine ⟨20, by omega, by omega, ?_, ?_, ?_, by omega, ?_⟩
    · unfold s_X8_add_w0; (try dsimp only); rw [if_neg c20, d0]; exact k1
    · intro j hj; unfold s_X8_add_w0; (try dsimp only); rw [if_neg c20, d0]; exact k2 j hj
    · unfold s_X8_add_w1 s_X8_add_w2 s_X8_add_w3 s_X8_add_w4; (try dsimp only); rw [if_neg c20, if_neg c20, if_neg c20, if_neg c20, if_neg c20, d0, (d1 fp).1, (d1 fh).2.1, (d1 fl).2.2.1, (d1 fe).2.2.2]; exact k3
    · unfold s_X8_add_w4; (try dsimp only); rw [if_neg c20, if_neg c20, d0, (d1 fe).2.2.2]; exact k4
theorem max_t {a b : Int32} : (if a < b then b else a).toInt = (if a.toInt < b.toInt then b.toInt else a.toInt) := by
  by_cases c : a < b
  · rw [if_pos c, if_pos (t_lt.mp c)]
  · rw [if_neg c, if_neg (fun q => c (t_lt.mpr q))]
theorem min_t {a b : Int32} : (if b < a then b else a).toInt = (if b.toInt < a.toInt then b.toInt else a.toInt) := by
  by_cases c : b < a
  · rw [if_pos c, if_pos (t_lt.mp c)]
  · rw [if_neg c, if_neg (fun q => c (t_lt.mpr q))]
/-- watch: C the clock ahead of the tick, c the one behind it -/
theorem watch_GW {b a S c : Int32} (hc : c.toInt = C + 1) (h0 : 0 ≤ C) (hC : C < 1000000000) (ha : -9999 ≤ a.toInt ∧ a.toInt ≤ 9999) (h : GW w fp fh fl fe C) :
    GW (s_X8_watch_w0 b a S c w) (s_X8_watch_w1 b a S c w fp) (s_X8_watch_w2 b a S w fh) (s_X8_watch_w3 b a S w fl) (s_X8_watch_w4 b a S c w fe) (C + 1) ∧ (s_X8_watch_r b a S = 0 → s_X8_watch_w0 b a S c w 0 = w 0 ∧ s_X8_watch_w0 b a S c w 6 = w 6) ∧ (¬ s_X8_watch_r b a S = 0 → s_X8_watch_r b a S = 1 ∧ s_X8_watch_w0 b a S c w 6 = 1 ∧ ((w 6 = 0 ∧ s_X8_watch_w0 b a S c w 0 = w 0) ∨ (w 6 = 1 ∧ (s_X8_watch_w0 b a S c w 0).toInt ≤ (w 0).toInt + 1))) := by
  obtain ⟨h6, h8, h9, n, hn, hw, hsw, hgo⟩ := h
  obtain ⟨v1, ev1⟩ : ∃ v, v = (if w 8 < a then a else w 8) := ⟨_, rfl⟩
  obtain ⟨v2, ev2⟩ : ∃ v, v = (if a < w 9 then a else w 9) := ⟨_, rfl⟩
  have r1 : rg v1 (-9999) 9999 ∧ a.toInt ≤ v1.toInt := by
    have e := max_t (a := w 8) (b := a)
    rw [← ev1] at e
    unfold rg at h8 ⊢
    rw [e]
    split <;> omega
  have r2 : rg v2 (-9999) 9999 ∧ v2.toInt ≤ a.toInt := by
    have e := min_t (a := w 9) (b := a)
    rw [← ev2] at e
    unfold rg at h9 ⊢
    rw [e]
    split <;> omega
  have W0 : upd (upd w 8 v1) 9 v2 0 = w 0 := rfl
  have W6 : upd (upd w 8 v1) 9 v2 6 = w 6 := rfl
  have W7 : upd (upd w 8 v1) 9 v2 7 = w 7 := rfl
  have W8 : upd (upd w 8 v1) 9 v2 8 = v1 := rfl
  have W9 : upd (upd w 8 v1) 9 v2 9 = v2 := rfl
  have still : GW (upd (upd w 8 v1) 9 v2) fp fh fl fe (C + 1) := ⟨by rw [W6]; exact h6, by rw [W8]; exact r1.1, by rw [W9]; exact r2.1, n, hn, by rw [W0]; exact hw, hsw.mono (by omega), by
    rw [W6, W7]
    exact fun q => by
      obtain ⟨k1, k2, k3⟩ := hgo q
      exact ⟨k1, by omega, k3⟩⟩
  unfold s_X8_watch_w0 s_X8_watch_w1 s_X8_watch_w2 s_X8_watch_w3 s_X8_watch_w4 s_X8_watch_r
  (try dsimp only)
  rw [← ev1, ← ev2]
  by_cases c1 : S ≤ b
  · (repeat rw [if_pos c1])
    exact ⟨still, fun _ => ⟨W0, W6⟩, fun q => absurd rfl q⟩
  · (repeat rw [if_neg c1])
    by_cases c2 : S ≤ a
    · (repeat rw [if_pos c2])
      refine ⟨?_, fun q => absurd q (by decide), fun _ => ⟨rfl, rfl, ?_⟩⟩
      · by_cases g : w 6 = 0
        · (repeat rw [if_pos g])
          refine ⟨Or.inr rfl, (show rg (-9999 : Int32) (-9999) 9999 from ⟨by decide, by decide⟩), (show rg (9999 : Int32) (-9999) 9999 from ⟨by decide, by decide⟩), n, hn, (show _ = w 0 from rfl).trans hw, hsw.mono (by omega), fun _ => ?_⟩
          show 0 ≤ c.toInt ∧ c.toInt ≤ C + 1 ∧ (0 < n → (fe (n - 1)).toInt ≤ c.toInt)
          rw [hc]
          refine ⟨by omega, Int.le_refl _, fun q => ?_⟩
          have := (hsw (n - 1) (by omega)).2.2.1.2
          omega
        · (repeat rw [if_neg g])
          have g1 : w 6 = 1 := h6.resolve_left g
          obtain ⟨k1, k2, k3⟩ := hgo g1
          obtain ⟨m, m1, m2, m3, m4, m5, m6, m7⟩ := add_GW (c := c) (C := C + 1) (w := upd (upd w 8 v1) 9 v2) hn (by rw [W0]; exact hw) (hsw.mono (by omega)) hc (by omega) (by rw [W7]; omega) (by rw [W7]; exact k3) (by rw [W8, W9]; exact ⟨r2.1.1, by have := r1.2; have := r2.2; omega, r1.1.2⟩)
          refine ⟨Or.inr rfl, (show rg (-9999 : Int32) (-9999) 9999 from ⟨by decide, by decide⟩), (show rg (9999 : Int32) (-9999) 9999 from ⟨by decide, by decide⟩), m, m1, ?_, m5, fun _ => ?_⟩
          · rw [upd_ne (by decide), upd_ne (by decide), upd_ne (by decide), upd_ne (by decide)]; exact m3
          · show 0 ≤ c.toInt ∧ c.toInt ≤ C + 1 ∧ (0 < m → (s_X8_add_w4 c (upd (upd w 8 v1) 9 v2) fe (m - 1)).toInt ≤ c.toInt)
            rw [hc]
            refine ⟨by omega, Int.le_refl _, fun _ => ?_⟩
            rw [m7]
            exact Int.le_refl _
      · by_cases g : w 6 = 0
        · (repeat rw [if_pos g])
          exact Or.inl ⟨g, rfl⟩
        · (repeat rw [if_neg g])
          have g1 : w 6 = 1 := h6.resolve_left g
          obtain ⟨k1, k2, k3⟩ := hgo g1
          obtain ⟨m, m1, m2, m3, m4, m5, m6, m7⟩ := add_GW (c := c) (C := C + 1) (w := upd (upd w 8 v1) 9 v2) hn (by rw [W0]; exact hw) (hsw.mono (by omega)) hc (by omega) (by rw [W7]; omega) (by rw [W7]; exact k3) (by rw [W8, W9]; exact ⟨r2.1.1, by have := r1.2; have := r2.2; omega, r1.1.2⟩)
          refine Or.inr ⟨g1, ?_⟩
          rw [upd_ne (by decide), upd_ne (by decide), upd_ne (by decide), upd_ne (by decide), m3, hw, t_n (by omega), t_n (by omega)]
          omega
    · (repeat rw [if_neg c2])
      exact ⟨still, fun _ => ⟨W0, W6⟩, fun q => absurd rfl q⟩
end SWG

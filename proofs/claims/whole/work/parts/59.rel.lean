section FORE2
variable {z : Nat → Nat → Int32} {f : Nat → Int32} {N : Nat} {a b : Int32}
theorem dist_rel (h : RZ N z f) : s_X7_distance_r z = sizeG (f 5 - f 12) := by
  unfold s_X7_distance_r sizeG
  rw [h.2.1.1.1, h.1.2.2.1]
theorem fc_rel (h : RZ N z f) : ∀ m, N + m < 2147483648 → (fcF z m).1 = outS (fun k => itF s_X12_tickOn_w0 k f) m ∧ (fcF z m).2.1 = greS (fun k => itF s_X12_tickOn_w0 k f) m ∧ (fcF z m).2.2 = apaS (fun k => itF s_X12_tickOn_w0 k f) m
  | 0, _ => ⟨rfl, rfl, rfl⟩
  | m + 1, hm => by
    obtain ⟨e1, e2, e3⟩ := fc_rel h m (by omega)
    have hR := ticks_rel h (m + 1) hm
    refine ⟨?_, ?_, ?_⟩
    · show (fcF z m).1 + itF s_X7_passOne_z (m + 1) z 11 1 = outS (fun k => itF s_X12_tickOn_w0 k f) m + itF s_X12_tickOn_w0 (m + 1) f 18
      rw [e1, hR.2.2.2.2.1.1]
    · show (if (fcF z m).2.1 < itF s_X7_passOne_z (m + 1) z 1 5 then itF s_X7_passOne_z (m + 1) z 1 5 else (fcF z m).2.1) = (if itF s_X12_tickOn_w0 (m + 1) f 12 ≤ greS (fun k => itF s_X12_tickOn_w0 k f) m then greS (fun k => itF s_X12_tickOn_w0 k f) m else itF s_X12_tickOn_w0 (m + 1) f 12)
      rw [e2, hR.1.2.2.1]
      by_cases c : itF s_X12_tickOn_w0 (m + 1) f 12 ≤ greS (fun k => itF s_X12_tickOn_w0 k f) m
      · rw [if_pos c, if_neg (Int32.not_lt.mpr c)]
      · rw [if_neg c, if_pos (Int32.not_le.mp c)]
    · show (fcF z m).2.2 + s_X7_distance_r (itF s_X7_passOne_z (m + 1) z) = apaS (fun k => itF s_X12_tickOn_w0 k f) m + sizeG (itF s_X12_tickOn_w0 (m + 1) f 5 - itF s_X12_tickOn_w0 (m + 1) f 12)
      rw [e3, dist_rel hR]
/-- a forecast, by the reference's own pages -/
def foS (m : Nat) (w : Int32) (f : Nat → Int32) : Int32 := (if w = 0 then ((itF s_X12_tickOn_w0 m f) 12) else (if w = 1 then (outS (fun k => itF s_X12_tickOn_w0 k f) m) else (if w = 2 then (greS (fun k => itF s_X12_tickOn_w0 k f) m) else (if w = 3 then ((itF s_X12_tickOn_w0 m f) 16) else (apaS (fun k => itF s_X12_tickOn_w0 k f) m)))))
theorem fore_rel (h : RZ N z f) (hm : N + tn a < 2147483648) : s_X11_forecast_r a b z = foS (tn a) b f := by
  obtain ⟨e1, e2, e3⟩ := fc_rel h (tn a) hm
  have hR := ticks_rel h (tn a) hm
  unfold s_X11_forecast_r foS
  rw [e1, e2, e3, hR.1.2.2.1, hR.2.2.1.1]
theorem good_21 (h : RZ N z f) : goodP f < 21 := Nat.lt_of_le_of_lt (goodG_le _ _ _ _ _) (in_tn h.2.2.2.2.2.2.1.2.1 (by decide)).2
theorem good_0 (h : RZ N z f) : s_X7_goodCount_r z = 0 ↔ goodP f = 0 := by
  rw [good_rel h]
  constructor
  · intro q
    rcases Nat.eq_zero_or_pos (goodP f) with c | c
    · exact c
    · exact absurd q (nI_ne (j := 0) (by have := good_21 h; omega) (by decide) (by omega))
  · intro q
    rw [q]
    rfl
theorem out_of (h : RZ N z f) (hg : ¬ goodP f = 0) (ha : vp_in a 4) {m c : Int32} (hm : N + tn m < 2147483648) : s_X11_outcomeOf_r a m c z = s_X12_outcomeOf_r a m c f := by
  unfold s_X11_outcomeOf_r
  rw [if_neg (mt (good_0 h).mp hg), fore_rel (rule_rel h hg ha) hm]
  rfl
theorem nx_ite {c : Prop} [Decidable c] {x y k : Int32} (h1 : ¬ x = k) (h2 : ¬ y = k) : ¬ (if c then x else y) = k := by
  by_cases q : c
  · rw [if_pos q]; exact h1
  · rw [if_neg q]; exact h2
theorem bs_step {v : Nat → Int32} {r k : Nat} {b l : Int32} (hb : ¬ b = -99999) : bestS v (r + 1) k b l = bestS v r (k + 1) (if l ≤ v k then b else nI k) (if l ≤ v k then l else v k) := by
  rw [bestS, if_neg hb]
  by_cases c : l ≤ v k
  · rw [if_pos c, if_pos c, if_neg (Int32.not_lt.mpr c)]
  · rw [if_neg c, if_neg c, if_pos (Int32.not_le.mp c)]
theorem best4 {v : Nat → Int32} : bestS v 4 0 (-99999) 0 = (bd (v 0) (fun (v_7 : Int32) => (bd (v 1) (fun (v_12 : Int32) => (bd ((if v_7 ≤ v_12 then v_7 else v_12)) (fun (v_14 : Int32) => (bd ((if v_7 ≤ v_12 then 0 else 1)) (fun (v_15 : Int32) => (bd (v 2) (fun (v_21 : Int32) => (bd ((if v_14 ≤ v_21 then v_14 else v_21)) (fun (v_23 : Int32) => (bd ((if v_14 ≤ v_21 then v_15 else 2)) (fun (v_24 : Int32) => (bd (v 3) (fun (v_30 : Int32) => (bd ((if v_23 ≤ v_30 then v_24 else 3)) (fun (v_33 : Int32) => v_33)))))))))))))))))) := by
  have e0 : bestS v 4 0 (-99999) 0 = bestS v 3 1 (nI 0) (v 0) := by
    show bestS v (3 + 1) 0 (-99999) 0 = _
    rw [bestS, if_pos rfl]
  have e1 : bestS v 3 1 (nI 0) (v 0) = bestS v 2 2 (if v 0 ≤ v 1 then nI 0 else nI 1) (if v 0 ≤ v 1 then v 0 else v 1) := bs_step (r := 2) (by decide)
  have n1 : ¬ (if v 0 ≤ v 1 then nI 0 else nI 1) = -99999 := nx_ite (by decide) (by decide)
  have e2 := bs_step (v := v) (r := 1) (k := 2) (l := (if v 0 ≤ v 1 then v 0 else v 1)) n1
  have n2 : ¬ (if (if v 0 ≤ v 1 then v 0 else v 1) ≤ v 2 then (if v 0 ≤ v 1 then nI 0 else nI 1) else nI 2) = -99999 := nx_ite n1 (by decide)
  have e3 := bs_step (v := v) (r := 0) (k := 3) (l := (if (if v 0 ≤ v 1 then v 0 else v 1) ≤ v 2 then (if v 0 ≤ v 1 then v 0 else v 1) else v 2)) n2
  rw [e0, e1]
  refine e2.trans (e3.trans ?_)
  rw [bestS]
  rfl
theorem best_rel (h : RZ N z f) (hg : ¬ goodP f = 0) {m : Int32} (hm : N + tn m < 2147483648) : s_X11_bestRule_r m z = bestS (fun k => s_X12_outcomeOf_r (nI k) m 4 f) 4 0 (-99999) 0 := by
  unfold s_X11_bestRule_r
  rw [if_neg (mt (good_0 h).mp hg), best4, out_of (a := 0) h hg (vp_in_iff.mpr ⟨by decide, by decide⟩) hm, out_of (a := 1) h hg (vp_in_iff.mpr ⟨by decide, by decide⟩) hm, out_of (a := 2) h hg (vp_in_iff.mpr ⟨by decide, by decide⟩) hm, out_of (a := 3) h hg (vp_in_iff.mpr ⟨by decide, by decide⟩) hm]
  rfl
theorem setS_s {t : Nat → Nat → Int32} {w s : Int32} {r k : Nat} : setS t w (r + 1) k s = if sizeG (t k 5 - t k 12) ≤ w then setS t w r (k + 1) (if s = -99999 then nI k else s) else setS t w r (k + 1) (-99999) := by rw [setS]
theorem set_go (h : RZ N z f) {w : Int32} : ∀ r k, N + k + r < 2147483648 → setS (fun k => itF s_X12_tickOn_w0 k f) w r (k + 1) (stF z w k) = stF z w (k + r)
  | 0, _, _ => rfl
  | r + 1, k, hN => by
    have e : stF z w (k + 1) = if sizeG (itF s_X12_tickOn_w0 (k + 1) f 5 - itF s_X12_tickOn_w0 (k + 1) f 12) ≤ w then (if stF z w k = -99999 then nI (k + 1) else stF z w k) else -99999 := by
      rw [stF_s, dist_rel (ticks_rel h (k + 1) (by omega))]
    rw [show k + (r + 1) = (k + 1) + r by omega, ← set_go h r (k + 1) (by omega), setS_s, e]
    by_cases c : sizeG (itF s_X12_tickOn_w0 (k + 1) f 5 - itF s_X12_tickOn_w0 (k + 1) f 12) ≤ w
    · rw [if_pos c, if_pos c]
    · rw [if_neg c, if_neg c]
theorem settle_rel (h : RZ N z f) {w : Int32} {n2 : Nat} (hn : n2 = 200) (hN : N + 200 < 2147483648) : stF z w n2 = setS (fun k => itF s_X12_tickOn_w0 k f) w 201 0 (-99999) := by
  rw [show (201 : Nat) = n2 + 1 by omega, setS_s]
  have e : stF z w 0 = if sizeG (f 5 - f 12) ≤ w then (if (-99999 : Int32) = -99999 then nI 0 else -99999) else -99999 := by
    show (if w < s_X7_distance_r z then (-99999 : Int32) else 0) = _
    rw [dist_rel h]
    by_cases c : sizeG (f 5 - f 12) ≤ w
    · rw [if_pos c, if_neg (Int32.not_lt.mpr c), if_pos rfl]
      rfl
    · rw [if_neg c, if_pos (Int32.not_le.mp c)]
  have e2 := set_go h (w := w) n2 0 (by omega)
  rw [Nat.zero_add n2, e] at e2
  rw [← e2]
  show _ = (if sizeG (f 5 - f 12) ≤ w then _ else _)
  by_cases c : sizeG (f 5 - f 12) ≤ w
  · rw [if_pos c, if_pos c]
  · rw [if_neg c, if_neg c]
theorem simD_in (r : Int32) : ¬ s_X11_isDisturbance_r (simD r) = 0 := by
  rw [ds_iff, in_no, i64_of]
  have e : (simD r).toInt = (r / 8).toInt.tmod 81 - 40 := by
    unfold simD
    have k1 : (r / 8 / 81).toInt = (r / 8).toInt.tdiv 81 := Int32.toInt_div_of_ne_right _ _ (by decide)
    have k2 := Int.tmod_def (r / 8).toInt 81
    have k3 := Int.tmod_lt_of_pos (r / 8).toInt (b := 81) (by decide)
    have k4 := Int.lt_tmod_of_pos (r / 8).toInt (b := 81) (by decide)
    rw [Int32.toInt_sub, Int32.toInt_sub, Int32.toInt_mul, k1, Int.sub_bmod_bmod, Int.bmod_sub_bmod]
    rw [show (r / 8).toInt - (r / 8).toInt.tdiv 81 * (81 : Int32).toInt - (40 : Int32).toInt = (r / 8).toInt.tmod 81 - 40 by
      rw [k2, Int.mul_comm]
      rfl]
    exact Int.bmod_eq_of_le_mul_two (by omega) (by omega)
  have k3 := Int.tmod_lt_of_pos (r / 8).toInt (b := 81) (by decide)
  have k4 := Int.lt_tmod_of_pos (r / 8).toInt (b := 81) (by decide)
  rw [e]
  intro q
  refine q ⟨?_, ?_⟩
  · show (-500 : Int) ≤ _
    omega
  · show _ ≤ (500 : Int)
    omega
theorem siF_1 {x : Int64} {k : Nat} : (siF z x (k + 1)).1 = simN (siF z x k).1 := by rw [siF]
theorem siF_2 {x : Int64} {k : Nat} : (siF z x (k + 1)).2 = s_X7_pass_z 3 (if simR (simN (siF z x k).1) - simR (simN (siF z x k).1) / 8 * 8 = 0 then s_X7_push_z (simD (simR (simN (siF z x k).1))) (siF z x k).2 else (siF z x k).2) := by rw [siF]
theorem simG_p {x : Int64} {w : Nat → Int32} (c : simR x - simR x / 8 * 8 = 0) : simG x w = s_X12_disturbOn_w0 (simD (simR x)) w := if_pos c
theorem simG_n {x : Int64} {w : Nat → Int32} (c : ¬ simR x - simR x / 8 * 8 = 0) : simG x w = w := if_neg c
theorem pass3 (h : RZ N z f) (hN : N + 200 < 2147483648) : RZ (N + 200) (s_X7_pass_z 3 z) (itF s_X12_tickOn_w0 3 f) := pass_rel (x := 3) h (by decide) hN
theorem sim_rel (h : RZ N z f) {x : Int64} : ∀ k, N + 200 * k < 2147483648 → (siF z x k).1 = (simS f x k).1 ∧ RZ (N + 200 * k) (siF z x k).2 (simS f x k).2
  | 0, _ => ⟨rfl, h⟩
  | k + 1, hN => by
    obtain ⟨e1, e2⟩ := sim_rel h k (by omega)
    rw [siF_1, siF_2, simS_1, simS_2, e1, show N + 200 * (k + 1) = N + 200 * k + 200 by omega]
    refine ⟨rfl, pass3 ?_ (by omega)⟩
    by_cases c : simR (simN (simS f x k).1) - simR (simN (simS f x k).1) / 8 * 8 = 0
    · rw [if_pos c, simG_p c]
      exact push_rel e2 (simD_in _)
    · rw [if_neg c, simG_n c]
      exact e2
theorem simu_rel (h : RZ N z f) {x : Int64} {m : Int32} (hN : N + 200 * tn m < 2147483648) : s_X11_simulate_r x m z = (100000 * (nI (goodP ((simS f x (tn m)).2)))) + (((simS f x (tn m)).2) 12) := by
  obtain ⟨-, e⟩ := sim_rel h (x := x) (tn m) hN
  unfold s_X11_simulate_r
  rw [good_rel e, e.1.2.2.1]
theorem tol_rel (h : RZ N z f) : s_X8_leastTolerance_r a (z 4) (z 5) (z 6) (z 7) = tolS (fun k => goodP (upd f 7 (nI k))) a 100 0 := by
  unfold s_X8_leastTolerance_r
  congr 1
  funext k
  rw [h.2.2.1.1, goodG_cong (sw_p h) (sw_s h) (Nat.le_refl _)]
  have e16 : (upd f 7 (nI k)) 16 = f 16 := upd_ne (by decide)
  have ep : pP (upd f 7 (nI k)) = pP f := by
    funext j
    exact upd_ne (by omega)
  have es : sP (upd f 7 (nI k)) = sP f := by
    funext j
    show (upd f 7 (nI k)) (42 + 4 * j + 1) - (upd f 7 (nI k)) (42 + 4 * j + 2) = _
    rw [upd_ne (by omega), upd_ne (by omega)]
    rfl
  unfold goodP nP
  rw [e16, ep, es]
  rfl
end FORE2

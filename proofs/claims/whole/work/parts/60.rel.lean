section NUMS
variable {z : Nat → Nat → Int32} {f : Nat → Int32} {N : Nat} {a b : Int32}
theorem num_rel (h : RZ N z f) (ha : vp_in a 20) : s_X7_number_r a z = (if 17 ≤ a then (if a = 17 then (nI (goodP f)) else (if a = 18 then (f 17) else (f 18))) else (f (tn a))) := by
  obtain ⟨⟨p0, ⟨p1, p2, p3, p4, p5⟩, p6, -, -⟩, ⟨⟨c1, c2, c3, c4, c5, c6⟩, c7, c8, c9, -, -⟩, hW, hT, hA, hI⟩ := id h
  obtain ⟨j, hj, rfl⟩ := vp_in_of ha (by decide)
  rcases (show j = 0 ∨ j = 1 ∨ j = 2 ∨ j = 3 ∨ j = 4 ∨ j = 5 ∨ j = 6 ∨ j = 7 ∨ j = 8 ∨ j = 9 ∨ j = 10 ∨ j = 11 ∨ j = 12 ∨ j = 13 ∨ j = 14 ∨ j = 15 ∨ j = 16 ∨ j = 17 ∨ j = 18 ∨ j = 19 by omega) with rfl | rfl | rfl | rfl | rfl | rfl | rfl | rfl | rfl | rfl | rfl | rfl | rfl | rfl | rfl | rfl | rfl | rfl | rfl | rfl
  · exact p1
  · exact p2
  · exact p3
  · exact p4
  · exact p5
  · exact c1
  · exact c2
  · exact c3
  · exact c4
  · exact c5
  · exact c6
  · exact c7
  · exact p6
  · exact p0
  · show (if z 3 7 = 0 then (0 : Int32) else 1) = f 14
    rw [c8]
    rcases hI.2.2.1.1 with q | q <;> rw [q] <;> rfl
  · exact c9
  · exact hW.1
  · exact good_rel h
  · exact hT.1
  · exact hA.1
theorem acc_rel (h : RZ N z f) (ha : vp_in a 7) : s_X0_number_r a (z 11) (z 12) = f (35 + tn a) := by
  obtain ⟨a1, a2, a3, a4, a5, a6, a7, a8⟩ := h.2.2.2.2.1
  obtain ⟨j, hj, rfl⟩ := vp_in_of ha (by decide)
  rcases (show j = 0 ∨ j = 1 ∨ j = 2 ∨ j = 3 ∨ j = 4 ∨ j = 5 ∨ j = 6 by omega) with rfl | rfl | rfl | rfl | rfl | rfl | rfl
  · exact a6
  · exact a7
  · exact a8
  · exact a2
  · exact a3
  · exact a4
  · exact a5
theorem has_ti (h : RZ N z f) : s_X8_has_r a (z 4) = 0 ↔ ¬ (0 ≤ a.toInt ∧ a.toInt < (f 16).toInt) := by
  obtain ⟨n, hn, e⟩ := vp_in_of h.2.2.2.2.2.2.1.2.1 (by decide)
  have e2 : (f 16).toInt = (n : Int) := by rw [e, nI_toInt (by omega)]
  unfold s_X8_has_r
  try dsimp only
  rw [h.2.2.1.1]
  by_cases c1 : a < 0
  · rw [if_pos c1]
    have k := Int32.lt_iff_toInt_lt.mp c1
    have k0 : (0 : Int32).toInt = 0 := rfl
    exact ⟨fun _ => by omega, fun _ => rfl⟩
  · rw [if_neg c1]
    have k := mt Int32.lt_iff_toInt_lt.mpr c1
    have k0 : (0 : Int32).toInt = 0 := rfl
    by_cases c2 : f 16 ≤ a
    · rw [if_pos c2]
      have k2 := Int32.le_iff_toInt_le.mp c2
      exact ⟨fun _ => by omega, fun _ => rfl⟩
    · rw [if_neg c2]
      have k2 := mt Int32.le_iff_toInt_le.mpr c2
      have k3 : (20 : Int32).toInt = 20 := rfl
      have c3 : ¬ (20 : Int32) ≤ a := fun q => by
        have := Int32.le_iff_toInt_le.mp q
        omega
      rw [if_neg c3]
      exact ⟨fun q => absurd q (by decide), fun q => absurd ⟨by omega, by omega⟩ q⟩
theorem swg_ti (h : RZ N z f) : s_X12_isSwing_r a f = 0 ↔ ¬ (0 ≤ a.toInt ∧ a.toInt < (f 16).toInt) := by
  obtain ⟨n, hn, e⟩ := vp_in_of h.2.2.2.2.2.2.1.2.1 (by decide)
  have e2 : (f 16).toInt = (n : Int) := by rw [e, nI_toInt (by omega)]
  have e3 : (f 16 - 1).toInt = (n : Int) - 1 := by
    have k1 : (1 : Int32).toInt = 1 := rfl
    rw [Int32.toInt_sub, e2, k1]
    exact Int.bmod_eq_of_le_mul_two (by omega) (by omega)
  unfold s_X12_isSwing_r
  rw [in_no, i64_of, i64_of, e3, e2]
  have k0 : (0 : Int64).toInt = 0 := rfl
  rw [k0]
  constructor
  · intro q1 q2
    exact q1 ⟨q2.1, by omega⟩
  · intro q1 q2
    exact q1 ⟨q2.1, by omega⟩
theorem has_rel (h : RZ N z f) : s_X8_has_r a (z 4) = 0 ↔ s_X12_isSwing_r a f = 0 := (has_ti h).trans (swg_ti h).symm
theorem has_ix (h : RZ N z f) (c : ¬ s_X8_has_r a (z 4) = 0) : a = nI (tn a) ∧ tn a < tn (f 16) := by
  obtain ⟨n, hn, e⟩ := vp_in_of h.2.2.2.2.2.2.1.2.1 (by decide)
  have e2 : (f 16).toInt = (n : Int) := by rw [e, nI_toInt (by omega)]
  have k := Decidable.not_not.mp (mt (has_ti h).mpr c)
  obtain ⟨j, hj, ej⟩ := vp_in_of (x := a) (n := n) (vp_in_iff.mpr ⟨k.1, by omega⟩) (by omega)
  rw [e, ej, tn_of (k := j) rfl (by omega), tn_of (k := n) rfl (by omega)]
  exact ⟨rfl, hj⟩
theorem why_rel (h : RZ N z f) (c : ¬ s_X8_has_r a (z 4) = 0) : s_X8_reason_r a ((z 3) 2) (z 4) (z 5) (z 6) (z 7) = oddP f (tn a) := by
  obtain ⟨e1, e2⟩ := has_ix h c
  have hn := (in_tn h.2.2.2.2.2.2.1.2.1 (by decide)).2
  have m0 := mid_rel h 0
  have m1 := mid_rel h 1
  have s1 := sw_p h (tn a) e2
  have s2 := sw_s h (tn a) e2
  unfold s_X8_reason_r s_X8_reasonBeside_r
  try dsimp only
  rw [m0, m1, s1, h.2.1.1.2.2.1]
  have s3 : z 6 (tn a) - z 7 (tn a) = sP f (tn a) := s2
  rw [s3]
  unfold oddP oddG
  have g0 : midP f 0 = midG (pP f) (nP f) := rfl
  have g1 : midP f 1 = midG (sP f) (nP f) := rfl
  rw [g0, g1]
  rcases Nat.eq_zero_or_pos (tn a) with q | q
  · rw [if_pos q, if_pos (show a < 1 by rw [e1, q]; decide)]
  · rw [if_neg (show ¬ tn a = 0 by omega), if_neg (show ¬ a < 1 by
      rw [e1]
      exact fun x => absurd ((nI_ltI (b := 1) (by omega) (by decide)).mp x) (by omega)), if_pos (show a < 20 by
      rw [e1]
      exact (nI_ltI (b := 20) (by omega) (by decide)).mpr (by omega))]
    rfl
theorem swn_rel (h : RZ N z f) (c : ¬ s_X8_has_r a (z 4) = 0) (hb : vp_in b 5) : (if b = 3 then (s_X8_reason_r a ((z 3) 2) (z 4) (z 5) (z 6) (z 7)) else (s_X8_number_r a b (z 4) (z 5) (z 6) (z 7) (z 8))) = (if 3 ≤ b then (if b = 3 then (oddP f (tn a)) else (f (42 + 4 * tn a + 3))) else (f (42 + 4 * tn a + tn b))) := by
  obtain ⟨e1, e2⟩ := has_ix h c
  obtain ⟨k1, k2, k3, k4⟩ := h.2.2.1.2.2.1 (tn a) e2
  unfold s_X8_number_r
  rw [if_neg c, why_rel h c]
  obtain ⟨j, hj, rfl⟩ := vp_in_of hb (by decide)
  rcases (show j = 0 ∨ j = 1 ∨ j = 2 ∨ j = 3 ∨ j = 4 by omega) with rfl | rfl | rfl | rfl | rfl
  · exact k1
  · exact k2
  · exact k3
  · rfl
  · exact k4
theorem dis_rel (h : RZ N z f) (c : ¬ s_X8_has_r a (z 4) = 0) : s_X8_number_r a 0 (z 4) (z 5) (z 6) (z 7) (z 8) = f (42 + 4 * tn a) := by
  unfold s_X8_number_r
  rw [if_neg c, if_pos rfl]
  exact (h.2.2.1.2.2.1 (tn a) (has_ix h c).2).1
end NUMS
section REFU
variable {a : Int32} {x : Int64}
theorem in01 {l u y : Int64} (h : ¬ (l.toInt ≤ y.toInt ∧ y.toInt ≤ u.toInt)) : s_X12_in_r y l u = 0 := in_no.mpr h
theorem in10 {l u y : Int64} (h : l.toInt ≤ y.toInt ∧ y.toInt ≤ u.toInt) : ¬ s_X12_in_r y l u = 0 := fun q => absurd h (in_no.mp q)
theorem rs_v {n : Nat} (h1 : 1 ≤ n) (h2 : n ≤ 3) : (if nI n = 1 then (100000 : Int64) else (if nI n = 2 then 10000000000 else 1000000000000000)) - 1 = lN (100000 ^ n - 1) := by
  have e : (if nI n = 1 then (100000 : Int64) else (if nI n = 2 then 10000000000 else 1000000000000000)) = lN (100000 ^ n) := by
    rcases (show n = 1 ∨ n = 2 ∨ n = 3 by omega) with rfl | rfl | rfl <;> rfl
  rw [e]
  exact lN_sub (b := 1) pw_pos
theorem rs_k : s_X11_runScript_k a x = (if (s_X12_in_r a.toInt64 1 3) = 0 then 1 else (if (s_X12_in_r x 0 ((if a = 1 then 100000 else (if a = 2 then 10000000000 else 1000000000000000)) - 1)) = 0 then 1 else 0)) := by
  unfold s_X11_runScript_k
  have t1 : (1 : Int64).toInt = 1 := rfl
  have t3 : (3 : Int64).toInt = 3 := rfl
  have t0 : (0 : Int64).toInt = 0 := rfl
  have i1 : (1 : Int32).toInt = 1 := rfl
  have i3 : (3 : Int32).toInt = 3 := rfl
  by_cases c1 : a < 1
  · have k := Int32.lt_iff_toInt_lt.mp c1
    rw [if_pos c1, if_pos (in01 (by rw [i64_of]; omega))]
  · rw [if_neg c1]
    have k := mt Int32.lt_iff_toInt_lt.mpr c1
    by_cases c2 : a ≤ 3
    · rw [if_pos c2]
      have k2 := Int32.le_iff_toInt_le.mp c2
      rw [if_neg (in10 (y := a.toInt64) (l := 1) (u := 3) (by rw [i64_of]; omega))]
      obtain ⟨n, hn, e⟩ := vp_in_of (x := a) (n := 4) (vp_in_iff.mpr ⟨by omega, by omega⟩) (by decide)
      have en : a.toInt = (n : Int) := by rw [e, nI_toInt (by omega)]
      have n1 : 1 ≤ n := by omega
      by_cases c3 : lg_cmp x 0 < 0
      · have k3 := Int64.lt_iff_toInt_lt.mp ((lg_cmp_lt _ _).mp c3)
        rw [if_pos c3, if_pos (in01 (by omega))]
      · rw [if_neg c3]
        have k3 := mt Int64.lt_iff_toInt_lt.mpr (mt (lg_cmp_lt _ _).mpr c3)
        obtain ⟨g1, g2⟩ := lN_tl (x := x) (by omega)
        have hM : tl x < 2 ^ 63 := by
          have := Int64.toInt_lt x
          omega
        have hp := pw_lt (show n ≤ 3 by omega)
        have hp0 : 0 < 100000 ^ n := pw_pos
        have eb : bhS x (tn a) = lN (tl x / 100000 ^ n) := by
          have e9 := bh_eq hM n
          rw [← g1] at e9
          rw [e, tn_of (k := n) rfl (by omega)]
          exact e9
        rw [eb, e, rs_v n1 (by omega)]
        have eu : (lN (100000 ^ n - 1)).toInt = ((100000 ^ n - 1 : Nat) : Int) := by
          rw [lN_ti (by omega), if_pos (by omega)]
        have hq : tl x / 100000 ^ n ≤ tl x := Nat.div_le_self _ _
        have eq : (lN (tl x / 100000 ^ n)).toInt = ((tl x / 100000 ^ n : Nat) : Int) := by
          rw [lN_ti (by omega), if_pos (by omega)]
        by_cases c4 : tl x < 100000 ^ n
        · have c5 : tl x / 100000 ^ n = 0 := Nat.div_eq_of_lt c4
          rw [if_pos (show lg_cmp (lN (tl x / 100000 ^ n)) 0 ≤ 0 from Int32.not_lt.mp (fun q => by
            have := Int64.lt_iff_toInt_lt.mp ((lg_cmp_gt _ _).mp q)
            omega)), if_neg (in10 (by omega))]
        · have c5 : 0 < tl x / 100000 ^ n := Nat.div_pos (by omega) hp0
          rw [if_neg (show ¬ lg_cmp (lN (tl x / 100000 ^ n)) 0 ≤ 0 from Int32.not_le.mpr ((lg_cmp_gt _ _).mpr (Int64.lt_iff_toInt_lt.mpr (by omega)))), if_pos (in01 (by omega))]
    · rw [if_neg c2]
      have k2 := mt Int32.le_iff_toInt_le.mpr c2
      rw [if_pos (in01 (by rw [i64_of]; omega))]
theorem script_rel {z : Nat → Nat → Int32} {f : Nat → Int32} {N : Nat} (h : RZ N z f) (hN : N + 600 < 2147483648) (c : s_X11_runScript_k a x = 0) : s_X11_runScript_r a x z = scS (tn a) (tl x) 0 f := by
  obtain ⟨g1, g2, g3, g4, g5, g6⟩ := scr_in (a1 := a) (a2 := x) rfl rfl (by
    show s_X12_refused_r (if (s_X12_in_r a.toInt64 1 3) = 0 then 1 else (if (s_X12_in_r x 0 ((if a = 1 then 100000 else (if a = 2 then 10000000000 else 1000000000000000)) - 1)) = 0 then 1 else 0)) = 0
    rw [← rs_k, c]
    rfl)
  unfold s_X11_runScript_r
  have hM : tl x < 2 ^ 63 := Nat.lt_trans g6 (pw_lt g3)
  have e := cr_rel (n := tn a) hM (tn a) 0 z f N h (by omega)
  rw [← g5, Nat.mod_eq_of_lt g6] at e
  exact e
end REFU

section INIT
variable {w F fr : Nat → Int32}
theorem bg_0 {j : Nat} (h : 9 ≤ j) (h2 : j ≠ 12) (h3 : j < 154) : s_X12_begin_w0 fr j = 0 := by
  unfold s_X12_begin_w0
  rw [upd_ne (by omega), upd_ne (by omega), upd_ne (by omega), upd_ne (by omega), upd_ne (by omega), upd_ne (by omega), upd_ne (by omega), upd_ne (by omega), upd_ne (by omega), upd_ne (by omega)]
  exact if_pos h3
theorem init_rel : RZ 0 zI (s_X12_begin_w0 fr) := by
  have b16 : s_X12_begin_w0 fr 16 = 0 := bg_0 (by decide) (by decide) (by decide)
  have b17 : s_X12_begin_w0 fr 17 = 0 := bg_0 (by decide) (by decide) (by decide)
  have t0 : tn 0 = 0 := tn_of (k := 0) rfl (by decide)
  refine ⟨⟨rfl, ⟨rfl, rfl, rfl, rfl, rfl⟩, rfl, vp_in_iff.mpr ⟨by decide, by decide⟩, fun k hk => ?_⟩, ⟨⟨rfl, rfl, rfl, rfl, rfl, rfl⟩, rfl, rfl, rfl, rfl, rfl⟩, ⟨rfl, rfl, ?_, fun q => absurd q (show ¬ (0 : Int32) = 1 by decide)⟩, ⟨rfl, ?_⟩, ⟨rfl, rfl, rfl, rfl, rfl, rfl, rfl, rfl⟩, ⟨(show bI (10 : Int32) 0 20 from ⟨by decide, by decide⟩), (show bI (8 : Int32) 1 50 from ⟨by decide, by decide⟩), (show vp_in (2 : Int32) 10 from vp_in_iff.mpr ⟨by decide, by decide⟩), (show bI (20 : Int32) (-99) 99 from ⟨by decide, by decide⟩), (show bI (20 : Int32) 0 99 from ⟨by decide, by decide⟩), (show bI (20 : Int32) (-9999) 9999 from ⟨by decide, by decide⟩)⟩, ⟨(show vp_in (0 : Int32) 3 from vp_in_iff.mpr ⟨by decide, by decide⟩), (show vp_in (0 : Int32) 21 from vp_in_iff.mpr ⟨by decide, by decide⟩), (show vp_in (0 : Int32) 9 from vp_in_iff.mpr ⟨by decide, by decide⟩)⟩, ⟨Or.inl rfl, Or.inl rfl, Or.inl rfl⟩, fun k hk => ?_, ⟨0, Nat.le_refl _, rfl⟩, ?_⟩
  · rw [bg_0 (by omega) (by omega) (by omega)]
    rfl
  · rw [b16, t0]
    exact fun j hj => absurd hj (Nat.not_lt_zero _)
  · rw [b17, t0]
    exact fun j hj => absurd hj (Nat.not_lt_zero _)
  · rw [bg_0 (by omega) (by omega) (by omega)]
    exact ⟨by decide, by decide⟩
  · rw [b17, t0]
    exact fun j hj => absurd hj (Nat.not_lt_zero _)
theorem put3 {z : Nat → Nat → Int32} {b c d : Bool} {u5 u6 u7 : Int32} (hB : prB b (w 7) 100 u5) (hC : prB c (w 8) 3 u6) (hD : prB d (w 9) 20 u7) (z0 : z 3 0 = 100) (z1 : z 3 1 = 3) (z2 : z 3 2 = 20) : ∀ i, (s_X9_putInto_z w z 3) i = if i = 2 then u7 else if i = 1 then u6 else if i = 0 then u5 else z 3 i := by
  intro i
  have e : s_X9_putInto_z w z 3 = (if (w 9) = (-1) then (if (w 8) = (-1) then (if (w 7) = (-1) then (z 3) else (upd (z 3) 0 (w 7))) else (upd (if (w 7) = (-1) then (z 3) else (upd (z 3) 0 (w 7))) 1 (w 8))) else (upd (if (w 8) = (-1) then (if (w 7) = (-1) then (z 3) else (upd (z 3) 0 (w 7))) else (upd (if (w 7) = (-1) then (z 3) else (upd (z 3) 0 (w 7))) 1 (w 8))) 2 (w 9))) := rfl
  have s0 := pb_sel (z3 := z 3) (k := 0) hB z0
  have s1 := pb_sel (z3 := (if (w 7) = (-1) then (z 3) else (upd (z 3) 0 (w 7)))) (k := 1) hC (by rw [s0]; exact z1)
  have s2 := pb_sel (z3 := (if (w 8) = (-1) then (if (w 7) = (-1) then (z 3) else (upd (z 3) 0 (w 7))) else (upd (if (w 7) = (-1) then (z 3) else (upd (z 3) 0 (w 7))) 1 (w 8)))) (k := 2) hD (by rw [s1, if_neg (by decide), s0]; exact z2)
  rw [e, s2, s1, s0]
theorem load_rel (q : rdQ w F fr) : RZ 0 (s_X9_putInto_z w zI) F := by
  obtain ⟨u1, u2, u3, u4, ⟨⟨k1, k1'⟩, ⟨k2, k2'⟩, ⟨k3, k3'⟩, ⟨k4, k4'⟩⟩, ⟨w3, w4, w5, w6⟩, a, b, c, d, v, eF, hA, hT, hB, hC, hD, hv⟩ := q
  have h := init_rel (fr := fr)
  have hF : ∀ j, j ≠ 12 → F j = v j := fun j hj => by rw [eF, upd_ne hj]
  have hk : ∀ j, 8 ≤ j → j ≠ 12 → F j = s_X12_begin_w0 fr j := fun j h1 h2 => by
    rw [hF j h2, hv j (by omega) (by omega) (by omega) (by omega), upd_ne (by omega), upd_ne (by omega), upd_ne (by omega), upd_ne (by omega)]
  have F0 : F 0 = u1 := by rw [hF 0 (by decide), hv 0 (by decide) (by decide) (by decide) (by decide), upd_ne (by decide), upd_ne (by decide), upd_ne (by decide), upd_at]
  have F1 : F 1 = u2 := by rw [hF 1 (by decide), hv 1 (by decide) (by decide) (by decide) (by decide), upd_ne (by decide), upd_ne (by decide), upd_at]
  have F2 : F 2 = u3 := by rw [hF 2 (by decide), hv 2 (by decide) (by decide) (by decide) (by decide), upd_ne (by decide), upd_at]
  have F4 : F 4 = u4 := by rw [hF 4 (by decide), hv 4 (by decide) (by decide) (by decide) (by decide), upd_at]
  have F3 := hF 3 (by decide)
  have F12 : F 12 = v 3 := by rw [eF, upd_at]
  obtain ⟨p0, p1, p2, p3, p4, p5, p7⟩ := put1 (w := w) (z := zI) (u := v 3) ⟨a, v 3, hA, rfl, rfl⟩
  have c3 := put3 (z := zI) hB hC hD rfl rfl rfl
  obtain ⟨hP, hCo, hW, hTr, hAc, hI⟩ := h
  obtain ⟨⟨i0, i1, i2, i3, i4, i5⟩, ⟨j1, j2, j3⟩, ⟨l1, l2, l3⟩, m1, m2, m3⟩ := hI
  have x0 : (0 : Int32).toInt = 0 := rfl
  have x9 : (9 : Int32).toInt = 9 := rfl
  have k3i := Int32.le_iff_toInt_le.mp k3
  have k3j := Int32.le_iff_toInt_le.mp k3'
  refine ⟨⟨?_, ⟨?_, ?_, ?_, ?_, ?_⟩, ?_, ?_, ?_⟩, ⟨⟨?_, ?_, ?_, ?_, ?_, ?_⟩, ?_, ?_, ?_, ?_, ?_⟩, ?_, ?_, ?_, ⟨⟨?_, ?_, ?_, ?_, ?_, ?_⟩, ⟨?_, ?_, ?_⟩, ⟨?_, ?_, ?_⟩, ?_, ?_, ?_⟩⟩
  · rw [hk 13 (by decide) (by decide)]; exact hP.1
  · rw [p0, F0]; exact w3
  · rw [p1, F1]; exact w4
  · rw [p2, F2]; exact w5
  · rw [p3, F3]
  · rw [p4, F4]; exact w6
  · rw [p5, F12]
  · rw [p7]; exact hP.2.2.2.1
  · intro k hk10
    rw [p7, hk (25 + k) (by omega) (by omega)]
    exact hP.2.2.2.2 k hk10
  · rw [c3, if_neg (by decide), if_neg (by decide), if_pos rfl, hF 5 (by decide)]
  · rw [c3, if_neg (by decide), if_pos rfl, hF 6 (by decide)]
  · rw [c3, if_pos rfl, hF 7 (by decide)]
  · rw [c3, if_neg (by decide), if_neg (by decide), if_neg (by decide), hk 8 (by decide) (by decide)]; exact hCo.1.2.2.2.1
  · rw [c3, if_neg (by decide), if_neg (by decide), if_neg (by decide), hk 9 (by decide) (by decide)]; exact hCo.1.2.2.2.2.1
  · rw [c3, if_neg (by decide), if_neg (by decide), if_neg (by decide), hk 10 (by decide) (by decide)]; exact hCo.1.2.2.2.2.2
  · rw [c3, if_neg (by decide), if_neg (by decide), if_neg (by decide), hk 11 (by decide) (by decide)]; exact hCo.2.1
  · rw [c3, if_neg (by decide), if_neg (by decide), if_neg (by decide), hk 14 (by decide) (by decide)]; exact hCo.2.2.1
  · rw [c3, if_neg (by decide), if_neg (by decide), if_neg (by decide), hk 15 (by decide) (by decide)]; exact hCo.2.2.2.1
  · rw [c3, if_neg (by decide), if_neg (by decide), if_neg (by decide), hk 20 (by decide) (by decide)]; exact hCo.2.2.2.2.1
  · rw [c3, if_neg (by decide), if_neg (by decide), if_neg (by decide), hk 19 (by decide) (by decide)]; exact hCo.2.2.2.2.2
  · exact hW.cong j2 rfl rfl rfl rfl rfl rfl (fun j hj => hk j (by omega) (by omega))
  · exact hTr.cong rfl rfl (fun j hj => hk j (by omega) (by omega))
  · exact hAc.cong rfl rfl (fun j hj => hk j (by omega) (by omega))
  · rw [F0]; exact ⟨Int32.le_trans (by decide) k1, k1'⟩
  · rw [F1]; exact ⟨k2, k2'⟩
  · rw [F2]; exact vp_in_iff.mpr ⟨by omega, by omega⟩
  · rw [F3]; exact hT
  · rw [F4]; exact ⟨Int32.le_trans (by decide) k4, k4'⟩
  · rw [F12]; exact ⟨Int32.le_trans (by decide) hT.1, Int32.le_trans hT.2 (by decide)⟩
  · rw [hk 11 (by decide) (by decide)]; exact j1
  · rw [hk 16 (by decide) (by decide)]; exact j2
  · rw [hk 17 (by decide) (by decide)]; exact j3
  · rw [hk 14 (by decide) (by decide)]; exact l1
  · rw [hk 19 (by decide) (by decide)]; exact l2
  · rw [hk 21 (by decide) (by decide)]; exact l3
  · intro k hk10
    rw [hk (25 + k) (by omega) (by omega)]
    exact m1 k hk10
  · rw [hk 22 (by decide) (by decide)]; exact m2
  · intro t ht
    rw [hk 17 (by decide) (by decide)] at ht
    rw [hk (122 + 4 * t + 3) (by omega) (by omega)]
    exact m3 t ht
end INIT

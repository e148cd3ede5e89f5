section TEXT7
variable {x X ft fR : Nat → Int32} {L : Nat} {a : Int32}
theorem chr_all : ∀ k : Fin 256, vp_nar .char (((nI k.val).toUInt32 % 65536).toInt32) = nI k.val := by decide +kernel
theorem chr_of {k : Nat} (h : k < 256) : vp_nar .char (((nI k).toUInt32 % 65536).toInt32) = nI k := chr_all ⟨k, h⟩
theorem app_k (h1 : x 1 = nI L) (h2 : X 2 = nI L) (hL : L ≤ 60) : s_X11_append_k a x = (if (s_X12_in_r a.toInt64 0 255) = 0 then 1 else (if (X 2) = 60 then 2 else 0)) := by
  have t0 : (0 : Int64).toInt = 0 := rfl
  have t255 : (255 : Int64).toInt = 255 := rfl
  have i0 : (0 : Int32).toInt = 0 := rfl
  have i255 : (255 : Int32).toInt = 255 := rfl
  unfold s_X11_append_k s_X9_isFull_r
  try dsimp only
  rw [h1, h2]
  by_cases c1 : a < 0
  · have k := Int32.lt_iff_toInt_lt.mp c1
    rw [if_pos c1, if_pos (in01 (by rw [i64_of]; omega))]
  · rw [if_neg c1]
    have k := mt Int32.lt_iff_toInt_lt.mpr c1
    by_cases c2 : a ≤ 255
    · have k2 := Int32.le_iff_toInt_le.mp c2
      rw [if_pos c2, if_neg (in10 (y := a.toInt64) (l := 0) (u := 255) (by rw [i64_of]; omega))]
      rcases Nat.lt_or_ge L 60 with q | q
      · rw [if_pos (show nI L < 60 from (nI_ltI (b := 60) (by omega) (by decide)).mpr q), if_pos rfl, if_neg (show ¬ nI L = 60 from nI_ne (i := L) (j := 60) (by omega) (by decide) (by omega))]
      · have e : L = 60 := by omega
        subst e
        rfl
    · have k2 := mt Int32.le_iff_toInt_le.mpr c2
      rw [if_neg c2, if_pos (in01 (by rw [i64_of]; omega))]
theorem app_rel (hb : tpB L ft fR) (h1 : x 1 = nI L) (h2 : X 2 = nI L) (hk : s_X11_append_k a x = 0) : L < 60 ∧ s_X11_append_w1 x 1 = nI (L + 1) ∧ X 2 + 1 = nI (L + 1) ∧ tpB (L + 1) (s_X11_append_w2 a x ft) (upd fR (tn (X 2)) a) := by
  have hL := hb.1
  have hk2 := hk
  rw [app_k h1 h2 hL] at hk
  have c1 : ¬ s_X12_in_r a.toInt64 0 255 = 0 := fun q => by
    rw [if_pos q] at hk
    exact absurd hk (by decide)
  rw [if_neg c1] at hk
  have c2 : ¬ X 2 = 60 := fun q => by
    rw [if_pos q] at hk
    exact absurd hk (by decide)
  have hL2 : L < 60 := by
    rcases Nat.lt_or_ge L 60 with q | q
    · exact q
    · have e : L = 60 := by omega
      subst e
      exact absurd h2 c2
  have hv := in_vp (n := 256) c1 (by decide) (by decide)
  obtain ⟨v, hv2, ev⟩ := vp_in_of hv (by decide)
  have n0 : ¬ x 1 < 0 := by rw [h1]; exact nlt0 (by omega)
  have n60 : ¬ (60 : Int32) ≤ x 1 := by
    rw [h1]
    exact fun q => absurd ((nI_leI (a := 60) (by decide) (by omega)).mp q) (by omega)
  refine ⟨hL2, ?_, ?_, by omega, ?_⟩
  · unfold s_X11_append_w1 s_X9_add_w0
    try dsimp only
    rw [if_neg n0, if_neg n60, upd_at, h1]
    exact nI_add L 1
  · rw [h2]
    exact nI_add L 1
  · intro j hj
    unfold s_X11_append_w2 s_X9_add_w1
    try dsimp only
    rw [if_neg n0, if_neg n60, h1, h2, tn_of (k := L) rfl (by omega), ev, chr_of hv2]
    by_cases d : j = L
    · rw [d, upd_at, upd_at]
      refine ⟨rfl, ?_, ?_⟩
      · exact Int32.le_iff_toInt_le.mpr (by rw [nI_toInt (by omega)]; show (0 : Int) ≤ _; omega)
      · exact Int32.le_iff_toInt_le.mpr (by rw [nI_toInt (by omega)]; show _ ≤ (255 : Int); omega)
    · rw [upd_ne d, upd_ne d]
      exact hb.2 j (by omega)
theorem clr_rel {ft fR : Nat → Int32} : tpB 0 ft fR := ⟨by decide, fun j hj => absurd hj (Nat.not_lt_zero _)⟩
end TEXT7

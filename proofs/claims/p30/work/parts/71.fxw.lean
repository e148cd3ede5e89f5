/-! ===== the law's facts ===== -/
theorem er_0 (x9 ft : Nat → Int32) (hT : TXR [] x9 ft) : s_X11_errorPosition_r x9 ft = 0 := by
  have h0 : at9 (x0R x9) 0 0 := x0_at hT.1 (by omega)
  have q := here_0 (c := 71) (ft := ft) h0 (fun k => absurd k (by omega))
  have r : s_X9_labelled_2_r 71 1 20 (x0R x9) ft = -1 := by
    unfold s_X9_labelled_2_r
    rw [q, if_pos rfl]
  have w : s_X9_labelled_2_w0 71 1 20 (x0R x9) ft = x0R x9 := by
    unfold s_X9_labelled_2_w0
    rw [q, if_pos rfl]
  have pr : s_X9_readPlant_r (x0R x9) ft = 0 := by
    unfold s_X9_readPlant_r
    (try dsimp only)
    rw [r, if_pos rfl]
  show s_X9_read_r x9 ft = 0
  rw [read_r9, pr, if_pos rfl]
  unfold s_X9_readPlant_w0
  (try dsimp only)
  rw [r, if_pos rfl, w]
  rfl
theorem zI_GZ : GZ 0 zI := by
  have z0 : (0 : Int) ≤ (0 : Int32).toInt ∧ (0 : Int32).toInt ≤ 0 := ⟨by decide, by decide⟩
  refine ⟨z0, ⟨⟨by decide, by decide⟩, ⟨by decide, by decide⟩, ⟨by decide, by decide⟩, ⟨by decide, by decide⟩, ⟨by decide, by decide⟩, ⟨by decide, by decide⟩, ⟨by decide, by decide⟩, fun k hk => ⟨(show (0 : Int) ≤ (0 : Int32).toInt by decide), (show (0 : Int32).toInt ≤ (zI 1 4).toInt by decide)⟩⟩, ?_, ?_, ⟨0, by omega, rfl, fun t ht => absurd ht (Nat.not_lt_zero _)⟩, ?_⟩
  · exact ⟨⟨⟨by decide, by decide⟩, ⟨by decide, by decide⟩, ⟨by decide, by decide⟩⟩, ⟨⟨by decide, by decide⟩, ⟨by decide, by decide⟩, ⟨by decide, by decide⟩⟩, Or.inl rfl, Or.inl rfl, fun _ => rfl, ⟨by decide, by decide⟩, Or.inl rfl⟩
  · exact ⟨Or.inl rfl, ⟨by decide, by decide⟩, ⟨by decide, by decide⟩, 0, by omega, rfl, fun j hj => absurd hj (Nat.not_lt_zero _), fun q => absurd (show (0 : Int32) = 1 from q) (by decide)⟩
  · exact ⟨⟨by decide, by decide⟩, ⟨by decide, by decide⟩, ⟨by decide, by decide⟩, ⟨by decide, by decide⟩, fun q => by
      rcases q with q | q
      · exact absurd (show 0 < (0 : Int32).toInt from q) (by decide)
      · exact absurd (show (0 : Int32) = 1 from q) (by decide), rfl⟩
theorem zI_GR : GR 9000 zI := ⟨⟨zI_GZ.mono (by decide), by
  unfold TB
  exact ⟨by decide, by decide⟩⟩, fun _ => rfl⟩
theorem actS {u9 : Nat} {x y9 : Int32} {T : List Int32} {z8 : Zs} {H8 : List Zs} {a8 b8 : Option Zs} (h : GO (200 * (u9 : Int)) z8 H8 a8 b8) (hu : u9 < 12) (hy : 0 ≤ y9.toInt) : GO (200 * ((u9 + 1 : Nat) : Int)) (act_z x y9 T z8 H8 a8 b8) (act_h x y9 T z8 H8 a8 b8) (act_0 x y9 T z8 H8 a8 b8) (act_1 x y9 T z8 H8 a8 b8) := by
  have e : 200 * ((u9 + 1 : Nat) : Int) = 200 * (u9 : Int) + 200 := by omega
  rw [e]
  exact act_GO h (by omega) (by omega) hy
set_option maxHeartbeats 2000000 in
theorem fx_law (Ls : Nat) (xs : Nat → Int32) : FX_law Ls xs := by
  refine ⟨?_, ?_, ?_, ?_, ?_, ?_, ?_, ?_, ?_, ?_, ?_, ?_, ?_, ?_, ?_, ?_, ?_, ?_, ?_, ?_, ?_, ?_, ?_, ?_, ?_, ?_, ?_, ?_, ?_, ?_, ?_, ?_, ?_, ?_, ?_, ?_, ?_, ?_, ?_, ?_, ?_, ?_, ?_⟩
  · exact er_0
  · exact rfl
  · exact rfl
  · exact (by decide)
  · exact rfl
  · exact fx_refuses zI_GZ
  · exact fx_alike zI_GZ
  · exact fx_sound zI_GZ (by decide)
  · exact (fun _ _ _ _ _ _ ht hG hlt => fx_told hG.2)
  · exact (fun t _ _ _ _ _ ht _ hlt => (mode_GR (told_GR (Ls := Ls) (xs := xs) (j := 40 * t)) (by decide)).ts)
  · exact (fun t _ _ _ _ _ ht _ hlt => fx_refuses (mode_GR (told_GR (Ls := Ls) (xs := xs) (j := 40 * t)) (by decide)).1.1)
  · exact (fun t _ _ _ _ _ ht _ hlt => fx_alike (mode_GR (told_GR (Ls := Ls) (xs := xs) (j := 40 * t)) (by decide)).1.1)
  · exact (fun t _ _ _ _ _ ht _ hlt => fx_sound (mode_GR (told_GR (Ls := Ls) (xs := xs) (j := 40 * t)) (by decide)).1.1 (by decide))
  · exact (fun _ _ _ _ _ _ ht _ hlt _ _ _ _ _ hu hG8 => hG8.1.mono (by omega))
  · exact (fun _ _ _ _ _ _ ht _ hlt _ _ _ _ _ hu _ hlu => fx_act)
  · exact (fun _ _ _ _ _ _ ht _ hlt _ _ _ _ _ hu hG8 hlu => (actS hG8 hlu (nm_pos Ls xs _)).1.ts)
  · exact (fun _ _ _ _ _ _ ht _ hlt _ _ _ _ _ hu _ hlu => fx_act)
  · exact (fun _ _ _ _ _ _ ht _ hlt _ _ _ _ _ hu hG8 hlu => (actS hG8 hlu (nm_pos Ls xs _)).1.ts)
  · exact (fun _ _ _ _ _ _ ht _ hlt _ _ _ _ _ hu _ hlu => rfl)
  · exact (fun _ _ _ _ _ _ ht _ hlt _ _ _ _ _ hu hG8 hlu => fx_refuses (actS hG8 hlu (nm_pos Ls xs _)).1.1.1)
  · exact (fun _ _ _ _ _ _ ht _ hlt _ _ _ _ _ hu hG8 hlu => fx_alike (actS hG8 hlu (nm_pos Ls xs _)).1.1.1)
  · exact (fun _ _ _ _ _ _ ht _ hlt _ _ _ _ _ hu hG8 hlu => fx_sound (actS hG8 hlu (nm_pos Ls xs _)).1.1.1 (by omega))
  · exact (fun _ _ _ _ _ _ ht _ hlt _ _ _ _ _ hu hG8 hlu _ => (actS hG8 hlu (nm_pos Ls xs _)))
  · exact (fun _ _ _ _ _ _ ht _ hlt _ _ _ _ _ hu hG8 hlu _ => fx_scripts (actS hG8 hlu (nm_pos Ls xs _)).1.1.1 (nm_pos Ls xs _))
  · exact (fun _ _ _ _ _ _ ht _ hlt _ _ _ _ _ hu _ hlu _ => rfl)
  · exact (fun _ _ _ _ _ _ ht _ hlt _ _ _ _ _ hu _ hlu _ => rfl)
  · exact (fun _ _ _ _ _ _ ht _ hlt _ _ _ _ _ hu _ hlu _ => rfl)
  · exact (fun _ _ _ _ _ _ ht _ hlt _ _ _ _ _ hu _ hlu _ => rfl)
  · exact (fun _ _ _ _ _ _ ht _ hlt _ _ _ _ _ hu _ hlu _ => rfl)
  · exact (fun _ _ _ _ _ _ ht _ hlt _ _ _ _ _ hu _ hlu _ => rfl)
  · exact (fun _ _ _ _ _ _ ht _ hlt _ _ _ _ _ hu hG8 hlu _ => fx_hands (actS hG8 hlu (nm_pos Ls xs _)).1.1 (by omega) (by omega) (nm_pos Ls xs _))
  · exact (fun _ _ _ _ _ _ ht _ hlt _ _ _ _ _ hu hG8 hlu _ => fx_ticks (actS hG8 hlu (nm_pos Ls xs _)).1.1.1 (by omega) (nm_pos Ls xs _))
  · exact (fun _ _ _ _ _ _ ht _ hlt _ _ _ _ _ hu _ hlu _ _ _ => rfl)
  · exact (fun _ _ _ _ _ _ ht _ hlt _ _ _ _ _ hu hG8 hlu _ _ _ => (actS hG8 hlu (nm_pos Ls xs _)).1.ts)
  · exact (fun _ _ _ _ _ _ ht _ hlt _ _ _ _ _ hu _ hlu _ _ _ => rfl)
  · exact (fun _ _ _ _ _ _ ht _ hlt _ _ _ _ _ hu _ hlu _ _ _ => rfl)
  · exact (fun _ _ _ _ _ _ ht _ hlt _ _ _ _ _ hu _ hlu _ _ _ => rfl)
  · exact (fun _ _ _ _ _ _ ht _ hlt _ _ _ _ _ hu _ hlu _ _ _ => (by decide))
  · exact (fun _ _ _ _ _ _ ht _ hlt _ _ _ _ _ hu _ hlu _ _ _ => rfl)
  · exact (fun _ _ _ _ _ _ ht _ hlt _ _ _ _ _ hu hG8 hlu _ _ _ => fx_alike (actS hG8 hlu (nm_pos Ls xs _)).1.1.1)
  · exact (fun _ _ _ _ _ _ ht _ hlt _ _ _ _ _ hu hG8 hlu _ _ _ => ⟨(actS hG8 hlu (nm_pos Ls xs _)).1, fun q hq => absurd hq (by intro k; cases k), gs_s (actS hG8 hlu (nm_pos Ls xs _)).1, (actS hG8 hlu (nm_pos Ls xs _)).2.2.2⟩)
  · exact (fun t _ _ _ _ _ ht _ hlt => ⟨(mode_GR (told_GR (Ls := Ls) (xs := xs) (j := 40 * t)) (by decide)).mono (by decide), hpu_G (told_GR.mono (by decide)) (fun q hq => absurd hq (by intro k; cases k)), gs_n, gs_n⟩)
  · exact zI_GR

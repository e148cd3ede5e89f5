/-! ===== all that hands asks holds ===== -/
section FXH
variable {z : Zs} {B : Int}
theorem x_dr {x : Int32} (hx : 0 ≤ x.toInt) {d e : Nat} (hd : 0 < d) (hd2 : d < 1000000) (he : 0 < e) (he2 : e < 1000000) : (x / nI d) - (x / nI d) / nI e * nI e = nI (tn x / d % e) := by
  have hb := t_b x
  have ht := t_tn hx
  have hl : tn x / d ≤ tn x := Nat.div_le_self _ _
  rw [x_div hx hd hd2]
  exact pk_rem (by omega) he (by omega)
set_option maxHeartbeats 2000000 in
theorem fx_hands {x : Int32} {T : List Int32} {s0 s1 : Option Zs} (h : GB B z) (h0 : 0 ≤ B) (hB : B ≤ 4000) (hx : 0 ≤ x.toInt) : FX_hands x T z s0 s1 := by
  have hz : GZ B z := h.1
  have er : x - x / 4 * 4 = nI (tn x % 4) := x_rem hx (d := 4) (by decide) (by decide)
  have em : 1 + ((x / 4) - (x / 4) / 60 * 60) = nI (1 + tn x / 4 % 60) := by
    rw [show (x / 4) - (x / 4) / 60 * 60 = nI (tn x / 4 % 60) from x_dr hx (d := 4) (e := 60) (by decide) (by decide) (by decide) (by decide)]
    exact nI_add 1 _
  have ew : (x / 16) - (x / 16) / 100 * 100 = nI (tn x / 16 % 100) := x_dr hx (d := 16) (e := 100) (by decide) (by decide) (by decide) (by decide)
  have ep : (x / 32) - (x / 32) / 201 * 201 = nI (tn x / 32 % 201) := x_dr hx (d := 32) (e := 201) (by decide) (by decide) (by decide) (by decide)
  have eq : 1 + ((x / 8) - (x / 8) / 20 * 20) = nI (1 + tn x / 8 % 20) := by
    rw [show (x / 8) - (x / 8) / 20 * 20 = nI (tn x / 8 % 20) from x_dr hx (d := 8) (e := 20) (by decide) (by decide) (by decide) (by decide)]
    exact nI_add 1 _
  have hr : tn x % 4 < 4 := Nat.mod_lt _ (by decide)
  have hm : tn x / 4 % 60 < 60 := Nat.mod_lt _ (by decide)
  have hw : tn x / 16 % 100 < 100 := Nat.mod_lt _ (by decide)
  have hp : tn x / 32 % 201 < 201 := Nat.mod_lt _ (by decide)
  have hq : tn x / 8 % 20 < 20 := Nat.mod_lt _ (by decide)
  have hb := t_b x
  have htn := t_tn hx
  obtain ⟨n, hn, e, -⟩ := hz.2.2.2.1.2.2.2
  have en16 : qAbout 16 z = nI n := e
  have e256 : x / 256 = nI (tn x / 256) := x_div hx (d := 256) (by decide) (by decide)
  have hj256 : tn x / 256 < 2147483648 := by omega
  unfold FX_hands
  rw [er, em, ew, ep, eq, en16, e256]
  obtain ⟨r, gr⟩ : ∃ r, r = tn x % 4 := ⟨_, rfl⟩
  obtain ⟨m, gm⟩ : ∃ m, m = 1 + tn x / 4 % 60 := ⟨_, rfl⟩
  obtain ⟨w, gw⟩ : ∃ w, w = tn x / 16 % 100 := ⟨_, rfl⟩
  obtain ⟨p9, gp⟩ : ∃ p9, p9 = tn x / 32 % 201 := ⟨_, rfl⟩
  obtain ⟨q, gq⟩ : ∃ q, q = 1 + tn x / 8 % 20 := ⟨_, rfl⟩
  obtain ⟨X, gX⟩ : ∃ X, X = tn x / 256 := ⟨_, rfl⟩
  rw [← gr, ← gm, ← gw, ← gp, ← gq, ← gX]
  rw [← gr] at hr
  rw [← gw] at hw
  rw [← gp] at hp
  rw [← gX] at hj256
  have hm1 : 1 ≤ m := by omega
  have hm2 : m ≤ 60 := by omega
  have hq1 : 1 ≤ q := by omega
  have hq2 : q ≤ 20 := by omega
  have ept : (nI p9 - 100).toInt = (p9 : Int) - 100 := by
    have e100 : (100 : Int32).toInt = 100 := rfl
    rw [t_sub (by rw [t_n (by omega), e100]; omega) (by rw [t_n (by omega), e100]; omega), t_n (by omega), e100]
  obtain ⟨p, gpp⟩ : ∃ p, p = nI p9 - 100 := ⟨_, rfl⟩
  rw [← gpp] at ept ⊢
  clear gr gm gw gp gq gX er em ew ep eq e256 gpp
  have dk : s_X11_disturb_k p = 0 := di_k (by omega) (by omega)
  have DG := dist_GB h h0 (by omega) dk (by omega) (by omega)
  have P3 : (if qAbout 17 z = 0 then (1 : Int32) else (0 : Int32)) = (if qProp (nI r) 0 z = -99999 then (1 : Int32) else (0 : Int32)) := none_iff hz (fun g => (qp_v hr (by decide) (by decide)).trans (pro_no g)) (fun g => by rw [qp_v hr (by decide) (by decide)]; exact (pro_bd hz (by omega) g).1)
  have P4 : (if qAbout 17 z = 0 then (1 : Int32) else (0 : Int32)) = (if qOut (nI r) (nI m) 4 z = -99999 then (1 : Int32) else (0 : Int32)) := none_iff hz (fun g => (ou_of hr hm1 (by omega) (by decide)).trans (ou_no hz g)) (fun g => by rw [ou_of hr hm1 (by omega) (by decide)]; exact ou_pos hz h0 (by omega) g (by omega))
  have P5 : (if qAbout 17 z = 0 then (1 : Int32) else (0 : Int32)) = (if qBest (nI m) z = -99999 then (1 : Int32) else (0 : Int32)) := none_iff hz (fun g => be_no hz g hm1 (by omega)) (fun g => by
    obtain ⟨b, hb4, e4, -⟩ := be_v hz g hm1 (show m ≤ 200 by omega)
    rw [e4, t_n (by omega)]
    omega)
  have SE := se_sp hz h0 (by omega) hw
  have S0 : ¬ qSettle (nI w) z = 201 := by
    rcases SE with ⟨e1, -⟩ | ⟨j, j1, e1, -⟩
    · rw [e1]; decide
    · rw [e1]
      exact fun k => by have := nI_inj (j := 201) (by omega) (by omega) k; omega
  have S1 : ¬ qSettle (nI w) z = -99999 → ¬ nI w < sizeF (qAhead (qSettle (nI w) z) 0 z - qAbout 5 z) := fun a0 => by
    rcases SE with ⟨e1, -⟩ | ⟨j, j1, e1, j2, -⟩
    · exact absurd e1 a0
    · rw [e1]; exact j2
  have S2 : ¬ qSettle (nI w) z = -99999 → ¬ qSettle (nI w) z = 0 → ¬ sizeF (qAhead (qSettle (nI w) z - 1) 0 z - qAbout 5 z) ≤ nI w := fun a0 a1 => by
    rcases SE with ⟨e1, -⟩ | ⟨j, j1, e1, -, j3⟩
    · exact absurd e1 a0
    · rw [e1] at a1 ⊢
      have hj0 : 0 < j := Nat.pos_of_ne_zero (fun k => a1 (by rw [k]; rfl))
      rw [show nI j - 1 = nI (j - 1) from pk_sub (a := j) (b := 1) (by omega)]
      exact Int32.not_le.mpr (j3 hj0)
  have S3 : qSettle (nI w) z = -99999 → ¬ sizeF (qAhead 200 0 z - qAbout 5 z) ≤ nI w := fun a0 => by
    rcases SE with ⟨-, e2⟩ | ⟨j, j1, e1, -⟩
    · exact Int32.not_le.mpr e2
    · exact absurd (e1.symm.trans a0) (nI_no (by omega))
  have c2 : ¬ z 3 2 < 0 := fun k => by
    have k := t_lt.mp k
    have e0 : (0 : Int32).toInt = 0 := rfl
    have := hz.2.2.1.1.2.2.1
    omega
  have TO := to_sp (z := z) hq1 hq2
  have T1 : ¬ qTol (nI q) z = -99999 → s_X11_set_k 7 (qTol (nI q) z) = 0 ∧ TS (s_X11_set_z 7 (qTol (nI q) z) z) ∧ ¬ qSet 7 (qTol (nI q) z) z < 0 ∧ ¬ qAbout 17 (s_X11_set_z 7 (qTol (nI q) z) z) < nI q := fun a0 => by
    rcases TO with ⟨e1, -⟩ | ⟨j, j1, e1, j2, -⟩
    · exact absurd e1 a0
    · rw [e1]
      exact ⟨st_k j1, (st_GZ hz j1).ts, by rw [st_q j1]; exact c2, by rw [st_17 j1]; exact j2⟩
  have T2 : ¬ qTol (nI q) z = -99999 → ¬ qTol (nI q) z = 0 → s_X11_set_k 7 (qTol (nI q) z - 1) = 0 ∧ TS (s_X11_set_z 7 (qTol (nI q) z - 1) (s_X11_set_z 7 (qTol (nI q) z) z)) ∧ qSet 7 (qTol (nI q) z - 1) (s_X11_set_z 7 (qTol (nI q) z) z) = qTol (nI q) z ∧ ¬ nI q ≤ qAbout 17 (s_X11_set_z 7 (qTol (nI q) z - 1) (s_X11_set_z 7 (qTol (nI q) z) z)) := fun a0 a1 => by
    rcases TO with ⟨e1, -⟩ | ⟨j, j1, e1, -, j3⟩
    · exact absurd e1 a0
    · rw [e1] at a1 ⊢
      have hj0 : 0 < j := Nat.pos_of_ne_zero (fun k => a1 (by rw [k]; rfl))
      rw [show nI j - 1 = nI (j - 1) from pk_sub (a := j) (b := 1) (by omega)]
      exact ⟨st_k (by omega), (st_GZ (st_GZ hz j1) (by omega)).ts, by rw [st_q (by omega), st_3 j1, upd_at], by rw [st_17 (by omega), st_gT]; exact Int32.not_le.mpr (j3 (j - 1) (by omega))⟩
  have T3 : qTol (nI q) z = -99999 → TS (s_X11_set_z 7 99 z) ∧ ¬ qSet 7 99 z < 0 ∧ ¬ nI q ≤ qAbout 17 (s_X11_set_z 7 99 z) := fun a0 => by
    rcases TO with ⟨-, e2⟩ | ⟨j, j1, e1, -⟩
    · exact ⟨(st_GZ (j := 99) hz (by omega)).ts, by rw [show qSet 7 99 z = z 3 2 from st_q (j := 99) (by omega)]; exact c2, by
        rw [show qAbout 17 (s_X11_set_z 7 99 z) = nI (gT z 99) from st_17 (j := 99) (by omega)]
        exact Int32.not_le.mpr (e2 99 (by omega))⟩
    · exact absurd (e1.symm.trans a0) (nI_no (by omega))
  have D9 : ¬ nI n ≤ 0 → 0 < n := fun a0 => Nat.pos_of_ne_zero (fun k => a0 (by rw [k]; exact Int32.le_refl _))
  have D0 : ¬ nI n ≤ 0 → ¬ nI n = 0 := fun a0 k => a0 (by rw [k]; exact Int32.le_refl _)
  have D1 : ¬ nI n ≤ 0 → s_X11_discard_k (nI X - nI X / nI n * nI n) z = 0 ∧ GZ B (s_X11_discard_z (nI X - nI X / nI n * nI n) z) ∧ qDisc (nI X - nI X / nI n * nI n) z = qSwing (nI X - nI X / nI n * nI n) 0 z ∧ qAbout 16 (s_X11_discard_z (nI X - nI X / nI n * nI n) z) = nI n - 1 ∧ (¬ nI X - nI X / nI n * nI n + 1 = nI n → qSwing (nI X - nI X / nI n * nI n) 4 (s_X11_discard_z (nI X - nI X / nI n * nI n) z) = (if nI n ≤ nI X - nI X / nI n * nI n + 1 then (0 : Int32) else qSwing (nI X - nI X / nI n * nI n + 1) 4 z)) := fun a0 => by
    have hn0 := D9 a0
    rw [show nI X - nI X / nI n * nI n = nI (X % n) from pk_rem (by omega) hn0 (by omega)]
    have hj := Nat.mod_lt X hn0
    have hdk := dc_k (z := z) hn e hj
    exact ⟨hdk, disc_GZ hz hdk, dc_q hn e hj, (dc_n hn e hj).trans (by rw [en16]), dc_s hn e hj⟩
  have B0 : ¬ qAbout 17 z ≤ 0 → ∀ b : Int32, ¬ b < 0 → b ≤ 2 → ¬ qProp (nI r) b z < 0 ∧ ¬ 9999 < qProp (nI r) b z := fun a0 b b1 b2 => by
    have := pro_bd (a := nI r) (b := b) hz (by omega) (fun g => a0 ((fine_le hz).mpr g))
    rw [qp_v hr b1 b2]
    exact ⟨fun k => by have k := t_lt.mp k; have e0 : (0 : Int32).toInt = 0 := rfl; omega, fun k => by have k := t_lt.mp k; have e0 : (9999 : Int32).toInt = 9999 := rfl; omega⟩
  have qv : ∀ a : Nat, a < 4 → ¬ gN z = 0 → qProp (nI a) 0 z = s_X4_proportional_r (nI a) (qZ z) := fun a ha g => (qp_v ha (by decide) (by decide)).trans ((pro_v g).trans (if_pos rfl))
  have B1 : ¬ qAbout 17 z ≤ 0 → ¬ qProp 1 0 z < qProp 3 0 z ∧ ¬ qProp 0 0 z < qProp 1 0 z ∧ ¬ qProp 2 0 z < qProp 0 0 z := fun a0 => by
    have g : ¬ gN z = 0 := fun g => a0 ((fine_le hz).mpr g)
    have := prop_mono (qZ_bd hz (by omega) g)
    rw [show qProp 1 0 z = s_X4_proportional_r 1 (qZ z) from qv 1 (by decide) g, show qProp 0 0 z = s_X4_proportional_r 0 (qZ z) from qv 0 (by decide) g, show qProp 2 0 z = s_X4_proportional_r 2 (qZ z) from qv 2 (by decide) g, show qProp 3 0 z = s_X4_proportional_r 3 (qZ z) from qv 3 (by decide) g]
    exact this
  have TR := fun (a0 : ¬ qAbout 17 z ≤ 0) (a1 : ¬ 8 ≤ qAbout 18 z) => tr_all h h0 (by omega) a0 a1 hr hm1 (show m ≤ 200 by omega)
  have BE : ¬ qAbout 17 z ≤ 0 → ¬ qOut (qBest (nI m) z) (nI m) 4 z < qOut (nI r) (nI m) 4 z → qOut (qBest (nI m) z) (nI m) 4 z = qOut (nI r) (nI m) 4 z ∧ ¬ nI r < qBest (nI m) z := fun a0 a1 => by
    obtain ⟨b, hb4, e4, k4⟩ := be_v hz (fun g => a0 ((fine_le hz).mpr g)) hm1 (show m ≤ 200 by omega)
    rw [e4] at a1 ⊢
    obtain ⟨k5, k6⟩ := k4 r hr a1
    exact ⟨k5, fun k => by have := (nI_ltI (by omega) (by omega)).mp k; omega⟩
  have R1 : ¬ qAbout 17 z ≤ 0 → ¬ 0 < nI r → qProp (nI r) 1 z = 0 := fun a0 a1 => by
    have r0 : r = 0 := by
      have := mt (nI_ltI (a := 0) (b := r) (by decide) (by omega)).mpr a1
      omega
    rw [qp_v hr (by decide) (by decide), pro_v (fun g => a0 ((fine_le hz).mpr g)), r0]
    exact (if_neg (by decide)).trans ((if_pos rfl).trans (if_pos rfl))
  have R2 : ¬ qAbout 17 z ≤ 0 → ¬ 1 < nI r → qProp (nI r) 2 z = 0 := fun a0 a1 => by
    have r0 : r = 0 ∨ r = 1 := by
      have := mt (nI_ltI (a := 1) (b := r) (by decide) (by omega)).mpr a1
      omega
    rw [qp_v hr (by decide) (by decide), pro_v (fun g => a0 ((fine_le hz).mpr g))]
    refine (if_neg (by decide)).trans ((if_neg (by decide)).trans ?_)
    rcases r0 with r0 | r0
    · rw [r0]; exact (if_neg (by decide)).trans (if_neg (by decide))
    · rw [r0]; exact (if_neg (by decide)).trans (if_neg (by decide))
  exact ⟨rfl, rfl, P3, P4, P5, S0, dk, DG.1.1.ts, ((di_q dk).trans DG.2), (di_a dk), rfl, rfl, hz.ts, rfl, (fx_steps hz (by omega)), (fun _ _ => rfl), (fun _ _ => hz.ts), (fun _ _ => rfl), (fun _ _ => (by decide)), (fun _ _ => rfl), (fun a0 => (S1 a0)), (fun a0 a1 => (S2 a0 a1)), (fun a0 => (S3 a0)), (fun a0 => (T1 a0).1), (fun a0 => (T1 a0).2.1), (fun a0 => (T1 a0).2.2.1), (fun a0 => (T1 a0).2.2.2), (fun _ _ => rfl), (fun _ _ => hz.ts), (fun _ _ => rfl), (fun a0 a1 => (T2 a0 a1).1), (fun a0 a1 => (T2 a0 a1).2.1), (fun a0 a1 => (T2 a0 a1).2.2.1), (fun a0 a1 => (T2 a0 a1).2.2.2), (fun _ _ => rfl), (fun _ _ => hz.ts), (fun _ _ => rfl), (fun _ => (by decide)), (fun a0 => (T3 a0).1), (fun a0 => (T3 a0).2.1), (fun a0 => (T3 a0).2.2), (fun _ => rfl), (fun _ => hz.ts), (fun _ => rfl), (fun a0 => (D0 a0)), (fun a0 => (D1 a0).1), (fun a0 => (D1 a0).2.1.ts), (fun a0 => (D1 a0).2.2.1), (fun a0 => (D1 a0).2.2.2.1), (fun a0 => (fx_sound (D1 a0).2.1 (by omega))), (fun _ => rfl), (fun _ => hz.ts), (fun _ => rfl), (fun a0 a1 => ((D1 a0).2.2.2.2 a1)), (fun a0 => (B0 a0 0 (by decide) (by decide)).1), (fun a0 => (B0 a0 1 (by decide) (by decide)).1), (fun a0 => (B0 a0 2 (by decide) (by decide)).1), (fun a0 => (B0 a0 0 (by decide) (by decide)).2), (fun a0 => (B0 a0 1 (by decide) (by decide)).2), (fun a0 => (B0 a0 2 (by decide) (by decide)).2), (fun a0 => (B1 a0).1), (fun a0 => (B1 a0).2.1), (fun a0 => (B1 a0).2.2), (fun a0 a1 => (tr_ok a0 a1 hr)), (fun a0 a1 => (TR a0 a1).1.ts), (fun a0 a1 => (TR a0 a1).2.1), (fun a0 a1 => (TR a0 a1).2.2.1), (fun a0 a1 => (TR a0 a1).2.2.2.1), (fun a0 a1 => (TR a0 a1).2.2.2.2.1), (fun a0 a1 => (TR a0 a1).2.2.2.2.2.1), (fun a0 a1 => (TR a0 a1).2.2.2.2.2.2.1), (fun a0 a1 => (fx_sound (TR a0 a1).1 (by omega))), (fun a0 a1 => (TR a0 a1).2.2.2.2.2.2.2.1), (fun _ _ => (tick_k hm1 (by omega))), (fun a0 a1 => (TR a0 a1).2.2.2.2.2.2.2.2.2.1.ts), (fun a0 a1 => (TR a0 a1).2.2.2.2.2.2.2.2.1), (fun a0 a1 => (TR a0 a1).2.2.2.2.2.2.2.2.2.2.1), (fun a0 a1 => (TR a0 a1).2.2.2.2.2.2.2.2.2.2.2.1.ts), (fun a0 a1 => (TR a0 a1).2.2.2.2.2.2.2.2.2.2.2.2.1), (fun a0 a1 => ((TR a0 a1).2.2.2.2.2.2.2.2.2.2.2.2.2.1 3 (Or.inl rfl))), (fun a0 a1 => ((TR a0 a1).2.2.2.2.2.2.2.2.2.2.2.2.2.1 4 (Or.inr (Or.inl rfl)))), (fun a0 a1 => ((TR a0 a1).2.2.2.2.2.2.2.2.2.2.2.2.2.1 5 (Or.inr (Or.inr (Or.inl rfl))))), (fun a0 a1 => ((TR a0 a1).2.2.2.2.2.2.2.2.2.2.2.2.2.1 6 (Or.inr (Or.inr (Or.inr rfl))))), (fun a0 a1 => (TR a0 a1).2.2.2.2.2.2.2.2.2.2.2.2.2.2), (fun a0 a1 => (fx_sound (TR a0 a1).2.2.2.2.2.2.2.2.2.2.2.1 (by omega))), (fun _ _ => rfl), (fun _ _ => hz.ts), (fun _ _ => rfl), (fun a0 a1 => (tr_ok a0 a1 hr)), (fun a0 a1 => (TR a0 a1).1.ts), (fun a0 a1 => (TR a0 a1).2.1), (fun a0 a1 => (acc_GZ (TR a0 a1).1).ts), (fun a0 a1 => (TR a0 a1).2.2.2.2.2.2.1), (fun _ _ => rfl), (fun a0 a1 => (TR a0 a1).2.2.1), (fun _ _ => (by show ¬ (2 : Int32) = 0; decide)), (fun _ _ => rfl), (fun _ _ => rfl), (fun _ _ => hz.ts), (fun _ _ => rfl), (fun a0 a1 => (BE a0 a1).1), (fun a0 a1 => (BE a0 a1).2), (fun a0 a1 => (R1 a0 a1)), (fun a0 a1 => (R2 a0 a1))⟩
end FXH

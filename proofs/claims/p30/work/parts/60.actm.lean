/-! ===== what an action leaves ===== -/
section ACT
variable {z : Zs} {B : Int} {a b x y9 : Int32} {T : List Int32} {Hs : List Zs} {s0 s1 : Option Zs}
/-- a state that a run of calls can reach -/
def GR (B : Int) (z : Zs) : Prop := GB B z ∧ ∀ i, z (i + 13) = zI (i + 13)
theorem GR.mono {B' : Int} (h : GR B z) (hb : B ≤ B') : GR B' z := ⟨h.1.mono hb, h.2⟩
theorem GR.ts (h : GR B z) : TS z := h.1.1.ts
def GHs (B : Int) (Hs : List Zs) : Prop := ∀ h, h ∈ Hs → GR B h
def GS (B : Int) (s : Option Zs) : Prop := ∀ h, s = some h → GR B h
/-- an object's state, with all that it remembers -/
def GO (B : Int) (z : Zs) (Hs : List Zs) (s0 s1 : Option Zs) : Prop := GR B z ∧ GHs B Hs ∧ GS B s0 ∧ GS B s1
theorem GHs.mono {B' : Int} (h : GHs B Hs) (hb : B ≤ B') : GHs B' Hs := fun q hq => (h q hq).mono hb
theorem GS.mono {B' : Int} (h : GS B s0) (hb : B ≤ B') : GS B' s0 := fun q hq => (h q hq).mono hb
theorem GO.mono {B' : Int} (h : GO B z Hs s0 s1) (hb : B ≤ B') : GO B' z Hs s0 s1 := ⟨h.1.mono hb, h.2.1.mono hb, h.2.2.1.mono hb, h.2.2.2.mono hb⟩
theorem hpu_G (h : GR B z) (hs : GHs B Hs) : GHs B (hpu z Hs) := fun q hq => by
  have h2 := List.mem_of_mem_take hq
  rcases List.mem_cons.mp h2 with e | e
  · rw [e]; exact h
  · exact hs q e
theorem gs_n : GS B none := fun q hq => absurd hq (by intro h; cases h)
theorem gs_s (h : GR B z) : GS B (some z) := fun q hq => by
  cases hq
  exact h
theorem y_tick (hy : 0 ≤ y9.toInt) {d : Nat} (h0 : 0 < d) (hd : d ≤ 200) : ∃ k : Nat, 1 ≤ k ∧ k ≤ 200 ∧ 1 + (y9 - y9 / nI d * nI d) = nI k := by
  refine ⟨1 + tn y9 % d, by omega, ?_, ?_⟩
  · have := Nat.mod_lt (tn y9) h0
    omega
  · rw [x_rem hy h0 (by omega)]
    exact nI_add 1 _
theorem y_dist (hy : 0 ≤ y9.toInt) : -100 ≤ ((y9 - y9 / 161 * 161) - 80).toInt ∧ ((y9 - y9 / 161 * 161) - 80).toInt ≤ 100 := by
  rw [show y9 - y9 / 161 * 161 = nI (tn y9 % 161) from x_rem hy (d := 161) (by decide) (by decide)]
  have hk := Nat.mod_lt (tn y9) (show 0 < 161 by decide)
  generalize tn y9 % 161 = k at hk ⊢
  have e80 : (80 : Int32).toInt = 80 := rfl
  have ek : (nI k).toInt = (k : Int) := t_n (by omega)
  have e : (nI k - 80).toInt = (nI k).toInt - (80 : Int32).toInt := t_sub (by omega) (by omega)
  omega
theorem tick_GR (h : GR B z) (h0 : 0 ≤ B) (hB : B < 800000) (ha : ∃ k : Nat, 1 ≤ k ∧ k ≤ 200 ∧ a = nI k) : GR (B + 200) (s_X11_tick_z a z) := by
  obtain ⟨k, k1, k2, rfl⟩ := ha
  exact ⟨tick_GB h.1 h0 hB k1 k2, h.2⟩
theorem op_GR {z' : Zs} (h : GR B z) (hz : GZ B z') (h1 : z' 1 5 = z 1 5) (hh : ∀ i, z' (i + 13) = z (i + 13)) : GR B z' := ⟨⟨hz, by
  have := h.1.2
  unfold TB at this ⊢
  rw [h1]
  exact this⟩, fun i => (hh i).trans (h.2 i)⟩
theorem mode_GR (h : GR B z) (hk : s_X11_mode_k a = 0) : GR B (s_X11_mode_z a z) := op_GR h (mode_GZ h.1.1 hk) rfl (fun _ => rfl)
theorem set_GR (h : GR B z) (hk : s_X11_set_k a b = 0) : GR B (s_X11_set_z a b z) := op_GR h (set_GZ h.1.1 hk) rfl (fun _ => rfl)
theorem disc_GR (h : GR B z) (hk : s_X11_discard_k a z = 0) : GR B (s_X11_discard_z a z) := op_GR h (disc_GZ h.1.1 hk) rfl (fun _ => rfl)
theorem take_GR (h : GR B z) (hk : s_X11_takeBack_k z = 0) : GR B (s_X11_takeBack_z z) := op_GR h (take_GZ h.1.1 hk) rfl (fun _ => rfl)
theorem acc_GR (h : GR B z) : GR B (s_X11_accept_z z) := op_GR h (acc_GZ h.1.1) rfl (fun _ => rfl)
theorem rule_GR (h : GR B z) (hB : B ≤ 10000) (hk : s_X11_tryRule_k a z = 0) : GR B (s_X11_tryRule_z a z) := by
  refine op_GR h (rule_GZ h.1.1 hB hk) ?_ (fun _ => rfl)
  obtain ⟨hr, hc, -⟩ := rule_h h.1.1 hk
  rw [rule_U hr hc, fo_eq]
  rfl
theorem dist_GR (h : GR B z) (h0 : 0 ≤ B) (hB : B < 5000) (hk : s_X11_disturb_k a = 0) (h1 : -100 ≤ a.toInt) (h2 : a.toInt ≤ 100) : GR (B + 200) (s_X11_disturb_z a z) := ⟨(dist_GB h.1 h0 hB hk h1 h2).1, h.2⟩
theorem if_GR {K : Int32} {z' : Zs} {B' : Int} (h : GR B' z) (h2 : K = 0 → GR B' z') : GR B' (if K = 0 then z' else z) := ite_P (P := fun w : Zs => GR B' w) h2 (fun _ => h)
theorem hpu_if {K : Int32} (h : GR B z) (hs : GHs B Hs) : GHs B (if K = 0 then hpu z Hs else Hs) := ite_P (P := fun w : List Zs => GHs B w) (fun _ => hpu_G h hs) (fun _ => hs)
theorem und_G (hs : GHs B Hs) (hk : kUnd Hs = 0) : GR B (Hs.getD 0 zI) := by
  cases Hs with
  | nil => exact absurd (show (2 : Int32) = 0 from hk) (by decide)
  | cons q l => exact hs q (List.mem_cons_self ..)
theorem res_G (hs : GS B s1) (hk : kRes 1 s0 s1 = 0) : GR B (s1.getD zI) := by
  cases s1 with
  | none => exact absurd (show (2 : Int32) = 0 from hk) (by decide)
  | some q => exact hs q rfl
theorem res_0 (hs : GS B s0) (hk : kRes 0 s0 s1 = 0) : GR B (s0.getD zI) := by
  cases s0 with
  | none => exact absurd (show (2 : Int32) = 0 from hk) (by decide)
  | some q => exact hs q rfl
theorem act_GO (h : GO B z Hs s0 s1) (h0 : 0 ≤ B) (hB : B ≤ 4000) (hy : 0 ≤ y9.toInt) : GO (B + 200) (act_z x y9 T z Hs s0 s1) (act_h x y9 T z Hs s0 s1) (act_0 x y9 T z Hs s0 s1) (act_1 x y9 T z Hs s0 s1) := by
  have h9 := h.mono (B' := B + 200) (Int.le_add_of_nonneg_right (by decide))
  obtain ⟨hz, hH, hS0, hS1⟩ := h
  obtain ⟨gz, gH, gS0, gS1⟩ := h9
  have tk : ∀ (a : Int32), (∃ k : Nat, 1 ≤ k ∧ k ≤ 200 ∧ a = nI k) → GR (B + 200) (if s_X11_tick_k a = 0 then s_X11_tick_z a z else z) := fun a ha => if_GR gz (fun _ => tick_GR hz h0 (Int.lt_of_le_of_lt hB (by decide)) ha)
  have th : ∀ K : Int32, GHs (B + 200) (if K = 0 then hpu z Hs else Hs) := fun K => hpu_if gz gH
  have t200 : ∃ k : Nat, 1 ≤ k ∧ k ≤ 200 ∧ 1 + (y9 - y9 / 200 * 200) = nI k := y_tick hy (d := 200) (by decide) (by decide)
  have t20 : ∃ k : Nat, 1 ≤ k ∧ k ≤ 200 ∧ 1 + (y9 - y9 / 20 * 20) = nI k := y_tick hy (d := 20) (by decide) (by decide)
  have t90 : ∃ k : Nat, 1 ≤ k ∧ k ≤ 200 ∧ 1 + (y9 - y9 / 90 * 90) = nI k := y_tick hy (d := 90) (by decide) (by decide)
  have t50 : ∃ k : Nat, 1 ≤ k ∧ k ≤ 200 ∧ 1 + (y9 - y9 / 50 * 50) = nI k := y_tick hy (d := 50) (by decide) (by decide)
  have D := y_dist hy
  have hB5 : B < 5000 := by omega
  have hB8 : B < 800000 := by omega
  have hB10 : B ≤ 10000 := by omega
  have hBB : B ≤ B + 200 := by omega
  have pz : ∀ (c : Prop) (_ : Decidable c) (f g : Zs), GR (B + 200) f → GR (B + 200) g → GR (B + 200) (if c then f else g) := fun c _ f g q1 q2 => ite_P (P := fun w : Zs => GR (B + 200) w) (fun _ => q1) (fun _ => q2)
  have ph : ∀ (c : Prop) (_ : Decidable c) (f g : List Zs), GHs (B + 200) f → GHs (B + 200) g → GHs (B + 200) (if c then f else g) := fun c _ f g q1 q2 => ite_P (P := fun w : List Zs => GHs (B + 200) w) (fun _ => q1) (fun _ => q2)
  have ps : ∀ (c : Prop) (_ : Decidable c) (f g : Option Zs), GS (B + 200) f → GS (B + 200) g → GS (B + 200) (if c then f else g) := fun c _ f g q1 q2 => ite_P (P := fun w : Option Zs => GS (B + 200) w) (fun _ => q1) (fun _ => q2)
  refine ⟨?_, ?_, gS0, ?_⟩
  · unfold act_z
    refine pz _ _ _ _ (tk _ t200) (pz _ _ _ _ (tk _ t200) (pz _ _ _ _ (tk _ t200) (pz _ _ _ _ (tk _ t200) (pz _ _ _ _ (tk _ t200) (pz _ _ _ _ (tk _ t20) (pz _ _ _ _ ?_ (pz _ _ _ _ ?_ (pz _ _ _ _ ?_ (pz _ _ _ _ (pz _ _ _ _ (tk _ t90) ?_) (pz _ _ _ _ ?_ (pz _ _ _ _ ?_ (pz _ _ _ _ ?_ (pz _ _ _ _ (pz _ _ _ _ ?_ (tk _ t50)) (pz _ _ _ _ ?_ (pz _ _ _ _ gz ?_)))))))))))))))
    · exact if_GR gz (fun k => (mode_GR hz k).mono hBB)
    · exact if_GR gz (fun k => (set_GR hz k).mono hBB)
    · exact if_GR gz (fun k => dist_GR hz h0 hB5 k D.1 D.2)
    · exact if_GR gz (fun k => (disc_GR hz k).mono hBB)
    · exact if_GR gz (fun k => (rule_GR hz hB10 k).mono hBB)
    · exact if_GR gz (fun k => (rule_GR hz hB10 k).mono hBB)
    · exact if_GR gz (fun k => (take_GR hz k).mono hBB)
    · exact (acc_GR hz).mono hBB
    · exact if_GR gz (fun k => und_G gH k)
    · exact if_GR gz (fun k => res_G gS1 k)
  · unfold act_h
    refine ph _ _ _ _ (th _) (ph _ _ _ _ (th _) (ph _ _ _ _ (th _) (ph _ _ _ _ (th _) (ph _ _ _ _ (th _) (ph _ _ _ _ (th _) (ph _ _ _ _ (th _) (ph _ _ _ _ (th _) (ph _ _ _ _ (th _) (ph _ _ _ _ (ph _ _ _ _ (th _) (th _)) (ph _ _ _ _ (th _) (ph _ _ _ _ (th _) (ph _ _ _ _ (th _) (ph _ _ _ _ (ph _ _ _ _ (hpu_G gz gH) (th _)) (ph _ _ _ _ ?_ (ph _ _ _ _ gH ?_)))))))))))))))
    · exact ph _ _ _ _ (fun q hq => gH q (List.mem_of_mem_tail hq)) gH
    · exact ph _ _ _ _ (fun q hq => absurd hq (by intro k; cases k)) gH
  · unfold act_1
    refine ps _ _ _ _ gS1 (ps _ _ _ _ gS1 (ps _ _ _ _ gS1 (ps _ _ _ _ gS1 (ps _ _ _ _ gS1 (ps _ _ _ _ gS1 (ps _ _ _ _ gS1 (ps _ _ _ _ gS1 (ps _ _ _ _ gS1 (ps _ _ _ _ gS1 (ps _ _ _ _ gS1 (ps _ _ _ _ gS1 (ps _ _ _ _ gS1 (ps _ _ _ _ gS1 (ps _ _ _ _ gS1 (ps _ _ _ _ (ps _ _ _ _ (gs_s gz) gS1) gS1)))))))))))))))
theorem fx_act : FX_act x y9 T z Hs s0 s1 := fun _ _ _ _ _ _ _ _ _ _ c k => c (by rw [k]; decide)
end ACT

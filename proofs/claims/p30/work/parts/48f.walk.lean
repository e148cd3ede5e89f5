def M2 {α : Sort _} (K : Int32) (a b c : α) : Prop := (K = 0 → c = a) ∧ (¬ K = 0 → c = b)
theorem m2 {α : Sort _} {K : Int32} {a b : α} : M2 K a b (if K = 0 then a else b) := ⟨fun e => if_pos e, fun e => if_neg e⟩
theorem mE {α : Sort _} {K : Int32} {a : α} : M2 K a a a := ⟨fun _ => rfl, fun _ => rfl⟩
theorem oiP {y : Nat → ClassId} {h : Nat} {K : Int32} {T T' T2 : List Int32} {z z' z2 : Zs} {Hs Hs' Hs2 : List Zs} {s0 s1 s0' s1' s02 s12 : Option Zs} {w : va_W} (a : M2 K T' T T2) (b : M2 K z' z z2) (c : M2 K Hs' Hs Hs2) (d : M2 K s0' s0 s02) (f : M2 K s1' s1 s12) (hO : (K = 0 ∧ OB y h T' z' Hs' s0' s1' w) ∨ (¬ K = 0 ∧ OB y h T z Hs s0 s1 w)) : OB y h T2 z2 Hs2 s02 s12 w := by
  by_cases e : K = 0
  · rw [a.1 e, b.1 e, c.1 e, d.1 e, f.1 e]; exact oy e hO
  · rw [a.2 e, b.2 e, c.2 e, d.2 e, f.2 e]; exact on e hO
abbrev rmL_act : Room := ({ frames := 8, cells := 2, slots := 12, locals := 186 } : Room)
set_option maxHeartbeats 2000000 in
set_option maxRecDepth 20000 in
theorem c_L_act (l : Launch) (G : va_G) (y : Nat → ClassId) (h : Nat) (x : Int32) (y9 : Int32) (w : va_W) (T : List Int32) (z : Zs) (Hs : List Zs) (s0 s1 : Option Zs) (sz : Nat) (hO : OB y h T z Hs s0 s1 w) (hz : TS z) (hF : FX_act x y9 T z Hs s0 s1) (hfl : l.stackTraces = false) : Met l yL_act wsL_act rmL_act (PHZ G y [.ref h, .int x, .int y9] w sz) (QO G (act_r x y9 T z Hs s0 s1) (fun w9 => OB y h T (act_z x y9 T z Hs s0 s1) (act_h x y9 T z Hs s0 s1) (act_0 x y9 T z Hs s0 s1) (act_1 x y9 T z Hs s0 s1) w9) (va_A w sz)) 2 12 (va_A w sz) := by
  refine Met.ofW (cc := cL_act) (maxL := 4) (ret := (some .int)) (by decide) rfl ?_
  intro p e s m args below meth c s₁ B hml hv
  obtain ⟨rfl, hsz, hP, ⟨hK, hN⟩, hD0, hTY⟩ := hv
  have hx := B.exec
  have hb := B.bytes
  have hr := B.returns
  have hts := atoms_spec (ws := wsL_act) B.pre
  have hown : s.vm.findClass RL = some m.cls := findClass_of_methodNamed B.named
  subst hsz
  have hD := hD0.self (sz := s.heap.size)
  generalize hAe : va_A w s.heap.size = A at hD hTY ⊢
  have hA : ∀ q : Nat, s.heap.size ≤ q → A q := fun q h => by rw [← hAe]; exact Or.inr h
  have hS : va_S A s.heap s.heap [] := va_S.rf
  have n_228 := hF
  unfold FX_act at n_228
  have hl := lv_entry ([.ref h, .int x, .int y9]) (n := 4) (Nat.le_of_ble_eq_true rfl)
  rw [lg_entry_eq]
  generalize (lg_sl ([.ref h, .int x, .int y9]) ++ List.replicate (4 - (lg_sl ([.ref h, .int x, .int y9])).length) Slot.unset).toArray = ls at hl ⊢
  have hl : lv_has ls 4 [(0, .ref h), (1, .int x), (2, .int y9)] := hl
  obtain ⟨QQ, hQQ⟩ : ∃ zq9, zq9 = MQ below (QO G (act_r x y9 T z Hs s0 s1) (fun w9 => OB y h T (act_z x y9 T z Hs s0 s1) (act_h x y9 T z Hs s0 s1) (act_0 x y9 T z Hs s0 s1) (act_1 x y9 T z Hs s0 s1) w9) A) ([.ref h, .int x, .int y9] : List Value).toArray s 2 12 A := ⟨_, rfl⟩
  rw [← hQQ]
  refine lv_aload_n hx hb dL_act_0 rfl (lv_at hl 0 rfl) ?_
  refine lv_bipush (v := 16) hx hb dL_act_1 (by decide) ?_
  refine cl_O (Φ := (fun w9 => OB y h T z Hs s0 s1 w9)) (vx_runSX (As := [.ref h, .int 16]) (rest := []) ⟨hx, hb, hml, hown, hts⟩ (w_about l G y h 16 w T z Hs s0 s1 s.heap.size hO hz  hfl) (vx_cwSW 2 hts gL_act_L_tryAbout rfl rfl rfl (by decide +kernel) ⟨Nat.le_of_ble_eq_true rfl, Nat.le_of_ble_eq_true rfl⟩) (PHZ_S hP hK hN hD hTY hS (F_0 hD hS hA)) rfl rfl hl.1 rfl (lv_room (Nat.le_of_ble_eq_true rfl)) dL_act_3 ⟨Nat.le_of_ble_eq_true rfl, Nat.le_of_ble_eq_true rfl⟩) hD hS hA (fun w H locs hO hP hD hS => ?_)
  refine lv_istore_n (lv' := [(3, .int (qAbout 16 z)), (0, .ref h), (1, .int x), (2, .int y9)]) hx hb dL_act_6 rfl hl (by decide) rfl (fun ls hl => ?_)
  refine lv_iload_n hx hb dL_act_7 rfl (lv_at hl 2 rfl) ?_
  refine lv_bipush (v := 16) hx hb dL_act_8 (by decide) ?_
  refine lv_irem hx hb dL_act_10 (by decide) ?_
  rcases Decidable.em ((x - x / 16 * 16) = 0) with c_1 | c_1
  · refine lv_tableIn (tgt := 84) hx hb dL_act_11 (by rw [c_1]; decide) (by rw [c_1]; decide) (by rw [c_1]; first | done | rfl) (by decide) ?_
    refine lv_aload_n hx hb dL_act_84 rfl (lv_at hl 1 rfl) ?_
    refine lv_iconst (v := 1) hx hb dL_act_85 (by decide) ?_
    refine lv_iload_n hx hb dL_act_86 rfl (lv_at hl 3 rfl) ?_
    refine lv_sipush (v := 200) hx hb dL_act_87 (by decide) ?_
    refine lv_irem hx hb dL_act_90 (by decide) ?_
    refine lv_iadd hx hb dL_act_91 ?_
    refine cl_O (Φ := (fun w9 => (s_X11_tick_k (1 + (y9 - y9 / 200 * 200)) = 0 ∧ OB y h T (s_X11_tick_z (1 + (y9 - y9 / 200 * 200)) z) (hpu z Hs) s0 s1 w9) ∨ (¬ s_X11_tick_k (1 + (y9 - y9 / 200 * 200)) = 0 ∧ OB y h T z Hs s0 s1 w9))) (vx_runSX (As := [.ref h, .int (1 + (y9 - y9 / 200 * 200))]) (rest := []) ⟨hx, hb, hml, hown, hts⟩ (w_tick l G y h (1 + (y9 - y9 / 200 * 200)) w T z Hs s0 s1 H.size hO hz  hfl) (vx_cwSW 2 hts gL_act_L_tryTick rfl rfl rfl (by decide +kernel) ⟨Nat.le_of_ble_eq_true rfl, Nat.le_of_ble_eq_true rfl⟩) (PHZ_S hP hK hN hD hTY hS (F_0 hD hS hA)) rfl rfl hl.1 rfl (lv_room (Nat.le_of_ble_eq_true rfl)) dL_act_92 ⟨Nat.le_of_ble_eq_true rfl, Nat.le_of_ble_eq_true rfl⟩) hD hS hA (fun w H locs hO hP hD hS => ?_)
    have hO : OB y h T (if s_X11_tick_k (1 + (y9 - y9 / 200 * 200)) = 0 then (s_X11_tick_z (1 + (y9 - y9 / 200 * 200)) z) else z) (if s_X11_tick_k (1 + (y9 - y9 / 200 * 200)) = 0 then (hpu z Hs) else Hs) s0 s1 w := oiP mE m2 m2 mE mE hO
    rw [hQQ]
    refine W.widen (k := 2) (n := 12) (by omega) (by omega) ?_
    exact W.iret hx hb hr (end_O (ob_eq (by unfold act_z; exact (if_pos c_1).symm) (by unfold act_h; exact (if_pos c_1).symm) (by unfold act_0; exact rfl) (by unfold act_1; exact (if_pos c_1).symm) hO) hP hD hS (by unfold act_r; exact (if_pos c_1).symm)) hS.2.2 dL_act_95
  rcases Decidable.em ((x - x / 16 * 16) = 1) with c_2 | c_2
  · refine lv_tableIn (tgt := 84) hx hb dL_act_11 (by rw [c_2]; decide) (by rw [c_2]; decide) (by rw [c_2]; first | done | rfl) (by decide) ?_
    refine lv_aload_n hx hb dL_act_84 rfl (lv_at hl 1 rfl) ?_
    refine lv_iconst (v := 1) hx hb dL_act_85 (by decide) ?_
    refine lv_iload_n hx hb dL_act_86 rfl (lv_at hl 3 rfl) ?_
    refine lv_sipush (v := 200) hx hb dL_act_87 (by decide) ?_
    refine lv_irem hx hb dL_act_90 (by decide) ?_
    refine lv_iadd hx hb dL_act_91 ?_
    refine cl_O (Φ := (fun w9 => (s_X11_tick_k (1 + (y9 - y9 / 200 * 200)) = 0 ∧ OB y h T (s_X11_tick_z (1 + (y9 - y9 / 200 * 200)) z) (hpu z Hs) s0 s1 w9) ∨ (¬ s_X11_tick_k (1 + (y9 - y9 / 200 * 200)) = 0 ∧ OB y h T z Hs s0 s1 w9))) (vx_runSX (As := [.ref h, .int (1 + (y9 - y9 / 200 * 200))]) (rest := []) ⟨hx, hb, hml, hown, hts⟩ (w_tick l G y h (1 + (y9 - y9 / 200 * 200)) w T z Hs s0 s1 H.size hO hz  hfl) (vx_cwSW 2 hts gL_act_L_tryTick rfl rfl rfl (by decide +kernel) ⟨Nat.le_of_ble_eq_true rfl, Nat.le_of_ble_eq_true rfl⟩) (PHZ_S hP hK hN hD hTY hS (F_0 hD hS hA)) rfl rfl hl.1 rfl (lv_room (Nat.le_of_ble_eq_true rfl)) dL_act_92 ⟨Nat.le_of_ble_eq_true rfl, Nat.le_of_ble_eq_true rfl⟩) hD hS hA (fun w H locs hO hP hD hS => ?_)
    have hO : OB y h T (if s_X11_tick_k (1 + (y9 - y9 / 200 * 200)) = 0 then (s_X11_tick_z (1 + (y9 - y9 / 200 * 200)) z) else z) (if s_X11_tick_k (1 + (y9 - y9 / 200 * 200)) = 0 then (hpu z Hs) else Hs) s0 s1 w := oiP mE m2 m2 mE mE hO
    rw [hQQ]
    refine W.widen (k := 2) (n := 12) (by omega) (by omega) ?_
    exact W.iret hx hb hr (end_O (ob_eq (by unfold act_z; exact ((if_neg c_1).trans (if_pos c_2)).symm) (by unfold act_h; exact ((if_neg c_1).trans (if_pos c_2)).symm) (by unfold act_0; exact rfl) (by unfold act_1; exact ((if_neg c_1).trans (if_pos c_2)).symm) hO) hP hD hS (by unfold act_r; exact ((if_neg c_1).trans (if_pos c_2)).symm)) hS.2.2 dL_act_95
  rcases Decidable.em ((x - x / 16 * 16) = 2) with c_3 | c_3
  · refine lv_tableIn (tgt := 84) hx hb dL_act_11 (by rw [c_3]; decide) (by rw [c_3]; decide) (by rw [c_3]; first | done | rfl) (by decide) ?_
    refine lv_aload_n hx hb dL_act_84 rfl (lv_at hl 1 rfl) ?_
    refine lv_iconst (v := 1) hx hb dL_act_85 (by decide) ?_
    refine lv_iload_n hx hb dL_act_86 rfl (lv_at hl 3 rfl) ?_
    refine lv_sipush (v := 200) hx hb dL_act_87 (by decide) ?_
    refine lv_irem hx hb dL_act_90 (by decide) ?_
    refine lv_iadd hx hb dL_act_91 ?_
    refine cl_O (Φ := (fun w9 => (s_X11_tick_k (1 + (y9 - y9 / 200 * 200)) = 0 ∧ OB y h T (s_X11_tick_z (1 + (y9 - y9 / 200 * 200)) z) (hpu z Hs) s0 s1 w9) ∨ (¬ s_X11_tick_k (1 + (y9 - y9 / 200 * 200)) = 0 ∧ OB y h T z Hs s0 s1 w9))) (vx_runSX (As := [.ref h, .int (1 + (y9 - y9 / 200 * 200))]) (rest := []) ⟨hx, hb, hml, hown, hts⟩ (w_tick l G y h (1 + (y9 - y9 / 200 * 200)) w T z Hs s0 s1 H.size hO hz  hfl) (vx_cwSW 2 hts gL_act_L_tryTick rfl rfl rfl (by decide +kernel) ⟨Nat.le_of_ble_eq_true rfl, Nat.le_of_ble_eq_true rfl⟩) (PHZ_S hP hK hN hD hTY hS (F_0 hD hS hA)) rfl rfl hl.1 rfl (lv_room (Nat.le_of_ble_eq_true rfl)) dL_act_92 ⟨Nat.le_of_ble_eq_true rfl, Nat.le_of_ble_eq_true rfl⟩) hD hS hA (fun w H locs hO hP hD hS => ?_)
    have hO : OB y h T (if s_X11_tick_k (1 + (y9 - y9 / 200 * 200)) = 0 then (s_X11_tick_z (1 + (y9 - y9 / 200 * 200)) z) else z) (if s_X11_tick_k (1 + (y9 - y9 / 200 * 200)) = 0 then (hpu z Hs) else Hs) s0 s1 w := oiP mE m2 m2 mE mE hO
    rw [hQQ]
    refine W.widen (k := 2) (n := 12) (by omega) (by omega) ?_
    exact W.iret hx hb hr (end_O (ob_eq (by unfold act_z; exact ((if_neg c_1).trans ((if_neg c_2).trans (if_pos c_3))).symm) (by unfold act_h; exact ((if_neg c_1).trans ((if_neg c_2).trans (if_pos c_3))).symm) (by unfold act_0; exact rfl) (by unfold act_1; exact ((if_neg c_1).trans ((if_neg c_2).trans (if_pos c_3))).symm) hO) hP hD hS (by unfold act_r; exact ((if_neg c_1).trans ((if_neg c_2).trans (if_pos c_3))).symm)) hS.2.2 dL_act_95
  rcases Decidable.em ((x - x / 16 * 16) = 3) with c_4 | c_4
  · refine lv_tableIn (tgt := 84) hx hb dL_act_11 (by rw [c_4]; decide) (by rw [c_4]; decide) (by rw [c_4]; first | done | rfl) (by decide) ?_
    refine lv_aload_n hx hb dL_act_84 rfl (lv_at hl 1 rfl) ?_
    refine lv_iconst (v := 1) hx hb dL_act_85 (by decide) ?_
    refine lv_iload_n hx hb dL_act_86 rfl (lv_at hl 3 rfl) ?_
    refine lv_sipush (v := 200) hx hb dL_act_87 (by decide) ?_
    refine lv_irem hx hb dL_act_90 (by decide) ?_
    refine lv_iadd hx hb dL_act_91 ?_
    refine cl_O (Φ := (fun w9 => (s_X11_tick_k (1 + (y9 - y9 / 200 * 200)) = 0 ∧ OB y h T (s_X11_tick_z (1 + (y9 - y9 / 200 * 200)) z) (hpu z Hs) s0 s1 w9) ∨ (¬ s_X11_tick_k (1 + (y9 - y9 / 200 * 200)) = 0 ∧ OB y h T z Hs s0 s1 w9))) (vx_runSX (As := [.ref h, .int (1 + (y9 - y9 / 200 * 200))]) (rest := []) ⟨hx, hb, hml, hown, hts⟩ (w_tick l G y h (1 + (y9 - y9 / 200 * 200)) w T z Hs s0 s1 H.size hO hz  hfl) (vx_cwSW 2 hts gL_act_L_tryTick rfl rfl rfl (by decide +kernel) ⟨Nat.le_of_ble_eq_true rfl, Nat.le_of_ble_eq_true rfl⟩) (PHZ_S hP hK hN hD hTY hS (F_0 hD hS hA)) rfl rfl hl.1 rfl (lv_room (Nat.le_of_ble_eq_true rfl)) dL_act_92 ⟨Nat.le_of_ble_eq_true rfl, Nat.le_of_ble_eq_true rfl⟩) hD hS hA (fun w H locs hO hP hD hS => ?_)
    have hO : OB y h T (if s_X11_tick_k (1 + (y9 - y9 / 200 * 200)) = 0 then (s_X11_tick_z (1 + (y9 - y9 / 200 * 200)) z) else z) (if s_X11_tick_k (1 + (y9 - y9 / 200 * 200)) = 0 then (hpu z Hs) else Hs) s0 s1 w := oiP mE m2 m2 mE mE hO
    rw [hQQ]
    refine W.widen (k := 2) (n := 12) (by omega) (by omega) ?_
    exact W.iret hx hb hr (end_O (ob_eq (by unfold act_z; exact ((if_neg c_1).trans ((if_neg c_2).trans ((if_neg c_3).trans (if_pos c_4)))).symm) (by unfold act_h; exact ((if_neg c_1).trans ((if_neg c_2).trans ((if_neg c_3).trans (if_pos c_4)))).symm) (by unfold act_0; exact rfl) (by unfold act_1; exact ((if_neg c_1).trans ((if_neg c_2).trans ((if_neg c_3).trans (if_pos c_4)))).symm) hO) hP hD hS (by unfold act_r; exact ((if_neg c_1).trans ((if_neg c_2).trans ((if_neg c_3).trans (if_pos c_4)))).symm)) hS.2.2 dL_act_95
  rcases Decidable.em ((x - x / 16 * 16) = 4) with c_5 | c_5
  · refine lv_tableIn (tgt := 84) hx hb dL_act_11 (by rw [c_5]; decide) (by rw [c_5]; decide) (by rw [c_5]; first | done | rfl) (by decide) ?_
    refine lv_aload_n hx hb dL_act_84 rfl (lv_at hl 1 rfl) ?_
    refine lv_iconst (v := 1) hx hb dL_act_85 (by decide) ?_
    refine lv_iload_n hx hb dL_act_86 rfl (lv_at hl 3 rfl) ?_
    refine lv_sipush (v := 200) hx hb dL_act_87 (by decide) ?_
    refine lv_irem hx hb dL_act_90 (by decide) ?_
    refine lv_iadd hx hb dL_act_91 ?_
    refine cl_O (Φ := (fun w9 => (s_X11_tick_k (1 + (y9 - y9 / 200 * 200)) = 0 ∧ OB y h T (s_X11_tick_z (1 + (y9 - y9 / 200 * 200)) z) (hpu z Hs) s0 s1 w9) ∨ (¬ s_X11_tick_k (1 + (y9 - y9 / 200 * 200)) = 0 ∧ OB y h T z Hs s0 s1 w9))) (vx_runSX (As := [.ref h, .int (1 + (y9 - y9 / 200 * 200))]) (rest := []) ⟨hx, hb, hml, hown, hts⟩ (w_tick l G y h (1 + (y9 - y9 / 200 * 200)) w T z Hs s0 s1 H.size hO hz  hfl) (vx_cwSW 2 hts gL_act_L_tryTick rfl rfl rfl (by decide +kernel) ⟨Nat.le_of_ble_eq_true rfl, Nat.le_of_ble_eq_true rfl⟩) (PHZ_S hP hK hN hD hTY hS (F_0 hD hS hA)) rfl rfl hl.1 rfl (lv_room (Nat.le_of_ble_eq_true rfl)) dL_act_92 ⟨Nat.le_of_ble_eq_true rfl, Nat.le_of_ble_eq_true rfl⟩) hD hS hA (fun w H locs hO hP hD hS => ?_)
    have hO : OB y h T (if s_X11_tick_k (1 + (y9 - y9 / 200 * 200)) = 0 then (s_X11_tick_z (1 + (y9 - y9 / 200 * 200)) z) else z) (if s_X11_tick_k (1 + (y9 - y9 / 200 * 200)) = 0 then (hpu z Hs) else Hs) s0 s1 w := oiP mE m2 m2 mE mE hO
    rw [hQQ]
    refine W.widen (k := 2) (n := 12) (by omega) (by omega) ?_
    exact W.iret hx hb hr (end_O (ob_eq (by unfold act_z; exact ((if_neg c_1).trans ((if_neg c_2).trans ((if_neg c_3).trans ((if_neg c_4).trans (if_pos c_5))))).symm) (by unfold act_h; exact ((if_neg c_1).trans ((if_neg c_2).trans ((if_neg c_3).trans ((if_neg c_4).trans (if_pos c_5))))).symm) (by unfold act_0; exact rfl) (by unfold act_1; exact ((if_neg c_1).trans ((if_neg c_2).trans ((if_neg c_3).trans ((if_neg c_4).trans (if_pos c_5))))).symm) hO) hP hD hS (by unfold act_r; exact ((if_neg c_1).trans ((if_neg c_2).trans ((if_neg c_3).trans ((if_neg c_4).trans (if_pos c_5))))).symm)) hS.2.2 dL_act_95
  rcases Decidable.em ((x - x / 16 * 16) = 5) with c_6 | c_6
  · refine lv_tableIn (tgt := 96) hx hb dL_act_11 (by rw [c_6]; decide) (by rw [c_6]; decide) (by rw [c_6]; first | done | rfl) (by decide) ?_
    refine lv_aload_n hx hb dL_act_96 rfl (lv_at hl 1 rfl) ?_
    refine lv_iconst (v := 1) hx hb dL_act_97 (by decide) ?_
    refine lv_iload_n hx hb dL_act_98 rfl (lv_at hl 3 rfl) ?_
    refine lv_bipush (v := 20) hx hb dL_act_99 (by decide) ?_
    refine lv_irem hx hb dL_act_101 (by decide) ?_
    refine lv_iadd hx hb dL_act_102 ?_
    refine cl_O (Φ := (fun w9 => (s_X11_tick_k (1 + (y9 - y9 / 20 * 20)) = 0 ∧ OB y h T (s_X11_tick_z (1 + (y9 - y9 / 20 * 20)) z) (hpu z Hs) s0 s1 w9) ∨ (¬ s_X11_tick_k (1 + (y9 - y9 / 20 * 20)) = 0 ∧ OB y h T z Hs s0 s1 w9))) (vx_runSX (As := [.ref h, .int (1 + (y9 - y9 / 20 * 20))]) (rest := []) ⟨hx, hb, hml, hown, hts⟩ (w_tick l G y h (1 + (y9 - y9 / 20 * 20)) w T z Hs s0 s1 H.size hO hz  hfl) (vx_cwSW 2 hts gL_act_L_tryTick rfl rfl rfl (by decide +kernel) ⟨Nat.le_of_ble_eq_true rfl, Nat.le_of_ble_eq_true rfl⟩) (PHZ_S hP hK hN hD hTY hS (F_0 hD hS hA)) rfl rfl hl.1 rfl (lv_room (Nat.le_of_ble_eq_true rfl)) dL_act_103 ⟨Nat.le_of_ble_eq_true rfl, Nat.le_of_ble_eq_true rfl⟩) hD hS hA (fun w H locs hO hP hD hS => ?_)
    have hO : OB y h T (if s_X11_tick_k (1 + (y9 - y9 / 20 * 20)) = 0 then (s_X11_tick_z (1 + (y9 - y9 / 20 * 20)) z) else z) (if s_X11_tick_k (1 + (y9 - y9 / 20 * 20)) = 0 then (hpu z Hs) else Hs) s0 s1 w := oiP mE m2 m2 mE mE hO
    rw [hQQ]
    refine W.widen (k := 2) (n := 12) (by omega) (by omega) ?_
    exact W.iret hx hb hr (end_O (ob_eq (by unfold act_z; exact ((if_neg c_1).trans ((if_neg c_2).trans ((if_neg c_3).trans ((if_neg c_4).trans ((if_neg c_5).trans (if_pos c_6)))))).symm) (by unfold act_h; exact ((if_neg c_1).trans ((if_neg c_2).trans ((if_neg c_3).trans ((if_neg c_4).trans ((if_neg c_5).trans (if_pos c_6)))))).symm) (by unfold act_0; exact rfl) (by unfold act_1; exact ((if_neg c_1).trans ((if_neg c_2).trans ((if_neg c_3).trans ((if_neg c_4).trans ((if_neg c_5).trans (if_pos c_6)))))).symm) hO) hP hD hS (by unfold act_r; exact ((if_neg c_1).trans ((if_neg c_2).trans ((if_neg c_3).trans ((if_neg c_4).trans ((if_neg c_5).trans (if_pos c_6)))))).symm)) hS.2.2 dL_act_106
  rcases Decidable.em ((x - x / 16 * 16) = 6) with c_7 | c_7
  · refine lv_tableIn (tgt := 107) hx hb dL_act_11 (by rw [c_7]; decide) (by rw [c_7]; decide) (by rw [c_7]; first | done | rfl) (by decide) ?_
    refine lv_aload_n hx hb dL_act_107 rfl (lv_at hl 1 rfl) ?_
    refine lv_iload_n hx hb dL_act_108 rfl (lv_at hl 3 rfl) ?_
    refine lv_iconst (v := 4) hx hb dL_act_109 (by decide) ?_
    refine lv_irem hx hb dL_act_110 (by decide) ?_
    have J130_10 : ∀ (v_9 : Int32) (e_v_9 : v_9 = (if (y9 - y9 / 4 * 4) = 0 then (0 : Int32) else (if (y9 - y9 / 4 * 4) = 1 then (2 : Int32) else (1 : Int32)))) (w : va_W) (hO : OB y h T z Hs s0 s1 w) (H : Heap) (locs : List Loc) (hP : va_P G vwCl w H) (hD : va_D A w) (hS : va_S A s.heap H locs) (ls : Array Slot) (hl : lv_has ls 4 []), W p l e (headSpec wsL_act rmL_act).room s m ([.ref h, .int x, .int y9] : List Value).toArray below meth c H locs 1 6 QQ (F0 m 130 ls [.int v_9, .ref h]) := by
      intro v_9 e_v_9 w hO H locs hP hD hS ls hl
      subst e_v_9
      refine cl_O (Φ := (fun w9 => (s_X11_mode_k (if (y9 - y9 / 4 * 4) = 0 then (0 : Int32) else (if (y9 - y9 / 4 * 4) = 1 then (2 : Int32) else (1 : Int32))) = 0 ∧ OB y h T (s_X11_mode_z (if (y9 - y9 / 4 * 4) = 0 then (0 : Int32) else (if (y9 - y9 / 4 * 4) = 1 then (2 : Int32) else (1 : Int32))) z) (hpu z Hs) s0 s1 w9) ∨ (¬ s_X11_mode_k (if (y9 - y9 / 4 * 4) = 0 then (0 : Int32) else (if (y9 - y9 / 4 * 4) = 1 then (2 : Int32) else (1 : Int32))) = 0 ∧ OB y h T z Hs s0 s1 w9))) (vx_runSX (As := [.ref h, .int (if (y9 - y9 / 4 * 4) = 0 then (0 : Int32) else (if (y9 - y9 / 4 * 4) = 1 then (2 : Int32) else (1 : Int32)))]) (rest := []) ⟨hx, hb, hml, hown, hts⟩ (w_mode l G y h (if (y9 - y9 / 4 * 4) = 0 then (0 : Int32) else (if (y9 - y9 / 4 * 4) = 1 then (2 : Int32) else (1 : Int32))) w T z Hs s0 s1 H.size hO hz  hfl) (vx_cwSW 2 hts gL_act_L_tryMode rfl rfl rfl (by decide +kernel) ⟨Nat.le_of_ble_eq_true rfl, Nat.le_of_ble_eq_true rfl⟩) (PHZ_S hP hK hN hD hTY hS (F_0 hD hS hA)) rfl rfl hl.1 rfl (lv_room (Nat.le_of_ble_eq_true rfl)) dL_act_130 ⟨Nat.le_of_ble_eq_true rfl, Nat.le_of_ble_eq_true rfl⟩) hD hS hA (fun w H locs hO hP hD hS => ?_)
      have hO : OB y h T (if s_X11_mode_k (if (y9 - y9 / 4 * 4) = 0 then (0 : Int32) else (if (y9 - y9 / 4 * 4) = 1 then (2 : Int32) else (1 : Int32))) = 0 then (s_X11_mode_z (if (y9 - y9 / 4 * 4) = 0 then (0 : Int32) else (if (y9 - y9 / 4 * 4) = 1 then (2 : Int32) else (1 : Int32))) z) else z) (if s_X11_mode_k (if (y9 - y9 / 4 * 4) = 0 then (0 : Int32) else (if (y9 - y9 / 4 * 4) = 1 then (2 : Int32) else (1 : Int32))) = 0 then (hpu z Hs) else Hs) s0 s1 w := oiP mE m2 m2 mE mE hO
      rw [hQQ]
      refine W.widen (k := 2) (n := 12) (by omega) (by omega) ?_
      exact W.iret hx hb hr (end_O (ob_eq (by unfold act_z; exact ((if_neg c_1).trans ((if_neg c_2).trans ((if_neg c_3).trans ((if_neg c_4).trans ((if_neg c_5).trans ((if_neg c_6).trans (if_pos c_7))))))).symm) (by unfold act_h; exact ((if_neg c_1).trans ((if_neg c_2).trans ((if_neg c_3).trans ((if_neg c_4).trans ((if_neg c_5).trans ((if_neg c_6).trans (if_pos c_7))))))).symm) (by unfold act_0; exact rfl) (by unfold act_1; exact ((if_neg c_1).trans ((if_neg c_2).trans ((if_neg c_3).trans ((if_neg c_4).trans ((if_neg c_5).trans ((if_neg c_6).trans (if_pos c_7))))))).symm) hO) hP hD hS (by unfold act_r; exact ((if_neg c_1).trans ((if_neg c_2).trans ((if_neg c_3).trans ((if_neg c_4).trans ((if_neg c_5).trans ((if_neg c_6).trans (if_pos c_7))))))).symm)) hS.2.2 dL_act_133
    refine lv_if_ne (tgt := 118) hx hb dL_act_111 (by decide) (fun c_8 => ?_) (fun c_8 => ?_)
    · refine lv_iload_n hx hb dL_act_118 rfl (lv_at hl 3 rfl) ?_
      refine lv_iconst (v := 4) hx hb dL_act_119 (by decide) ?_
      refine lv_irem hx hb dL_act_120 (by decide) ?_
      refine lv_iconst (v := 1) hx hb dL_act_121 (by decide) ?_
      refine lv_icmp_ne (tgt := 129) hx hb dL_act_122 (by decide) (fun c_11 => ?_) (fun c_11 => ?_)
      · refine lv_iconst (v := 1) hx hb dL_act_129 (by decide) ?_
        exact J130_10 _ (((if_neg c_8).trans (if_neg c_11)).symm) w hO H locs hP hD hS ls (lv_sub hl [] rfl)
      · refine lv_iconst (v := 2) hx hb dL_act_125 (by decide) ?_
        refine lv_goto (tgt := 130) hx hb dL_act_126 (by decide) ?_
        exact J130_10 _ (((if_neg c_8).trans (if_pos c_11)).symm) w hO H locs hP hD hS ls (lv_sub hl [] rfl)
    · refine lv_iconst (v := 0) hx hb dL_act_114 (by decide) ?_
      refine lv_goto (tgt := 130) hx hb dL_act_115 (by decide) ?_
      exact J130_10 _ ((if_pos c_8).symm) w hO H locs hP hD hS ls (lv_sub hl [] rfl)
  rcases Decidable.em ((x - x / 16 * 16) = 7) with c_12 | c_12
  · refine lv_tableIn (tgt := 134) hx hb dL_act_11 (by rw [c_12]; decide) (by rw [c_12]; decide) (by rw [c_12]; first | done | rfl) (by decide) ?_
    refine lv_aload_n hx hb dL_act_134 rfl (lv_at hl 1 rfl) ?_
    refine lv_iconst (v := 5) hx hb dL_act_135 (by decide) ?_
    refine lv_iload_n hx hb dL_act_136 rfl (lv_at hl 3 rfl) ?_
    refine lv_bipush (v := 6) hx hb dL_act_137 (by decide) ?_
    refine lv_irem hx hb dL_act_139 (by decide) ?_
    refine lv_iadd hx hb dL_act_140 ?_
    refine lv_iload_n hx hb dL_act_141 rfl (lv_at hl 3 rfl) ?_
    refine lv_bipush (v := 6) hx hb dL_act_142 (by decide) ?_
    refine lv_irem hx hb dL_act_144 (by decide) ?_
    have J203_15 : ∀ (v_14 : Int32) (e_v_14 : v_14 = (if (y9 - y9 / 6 * 6) = 0 then ((y9 / 8) - (y9 / 8) / 200 * 200) else (if (y9 - y9 / 6 * 6) = 1 then ((y9 / 8) - (y9 / 8) / 21 * 21) else (if (y9 - y9 / 6 * 6) = 2 then ((y9 / 8) - (y9 / 8) / 100 * 100) else ((y9 / 8) - (y9 / 8) / 10000 * 10000))))) (w : va_W) (hO : OB y h T z Hs s0 s1 w) (H : Heap) (locs : List Loc) (hP : va_P G vwCl w H) (hD : va_D A w) (hS : va_S A s.heap H locs) (ls : Array Slot) (hl : lv_has ls 4 []), W p l e (headSpec wsL_act rmL_act).room s m ([.ref h, .int x, .int y9] : List Value).toArray below meth c H locs 1 6 QQ (F0 m 203 ls [.int v_14, .int (5 + (y9 - y9 / 6 * 6)), .ref h]) := by
      intro v_14 e_v_14 w hO H locs hP hD hS ls hl
      subst e_v_14
      refine cl_O (Φ := (fun w9 => (s_X11_set_k (5 + (y9 - y9 / 6 * 6)) (if (y9 - y9 / 6 * 6) = 0 then ((y9 / 8) - (y9 / 8) / 200 * 200) else (if (y9 - y9 / 6 * 6) = 1 then ((y9 / 8) - (y9 / 8) / 21 * 21) else (if (y9 - y9 / 6 * 6) = 2 then ((y9 / 8) - (y9 / 8) / 100 * 100) else ((y9 / 8) - (y9 / 8) / 10000 * 10000)))) = 0 ∧ OB y h T (s_X11_set_z (5 + (y9 - y9 / 6 * 6)) (if (y9 - y9 / 6 * 6) = 0 then ((y9 / 8) - (y9 / 8) / 200 * 200) else (if (y9 - y9 / 6 * 6) = 1 then ((y9 / 8) - (y9 / 8) / 21 * 21) else (if (y9 - y9 / 6 * 6) = 2 then ((y9 / 8) - (y9 / 8) / 100 * 100) else ((y9 / 8) - (y9 / 8) / 10000 * 10000)))) z) (hpu z Hs) s0 s1 w9) ∨ (¬ s_X11_set_k (5 + (y9 - y9 / 6 * 6)) (if (y9 - y9 / 6 * 6) = 0 then ((y9 / 8) - (y9 / 8) / 200 * 200) else (if (y9 - y9 / 6 * 6) = 1 then ((y9 / 8) - (y9 / 8) / 21 * 21) else (if (y9 - y9 / 6 * 6) = 2 then ((y9 / 8) - (y9 / 8) / 100 * 100) else ((y9 / 8) - (y9 / 8) / 10000 * 10000)))) = 0 ∧ OB y h T z Hs s0 s1 w9))) (vx_runSX (As := [.ref h, .int (5 + (y9 - y9 / 6 * 6)), .int (if (y9 - y9 / 6 * 6) = 0 then ((y9 / 8) - (y9 / 8) / 200 * 200) else (if (y9 - y9 / 6 * 6) = 1 then ((y9 / 8) - (y9 / 8) / 21 * 21) else (if (y9 - y9 / 6 * 6) = 2 then ((y9 / 8) - (y9 / 8) / 100 * 100) else ((y9 / 8) - (y9 / 8) / 10000 * 10000))))]) (rest := []) ⟨hx, hb, hml, hown, hts⟩ (w_set l G y h (5 + (y9 - y9 / 6 * 6)) (if (y9 - y9 / 6 * 6) = 0 then ((y9 / 8) - (y9 / 8) / 200 * 200) else (if (y9 - y9 / 6 * 6) = 1 then ((y9 / 8) - (y9 / 8) / 21 * 21) else (if (y9 - y9 / 6 * 6) = 2 then ((y9 / 8) - (y9 / 8) / 100 * 100) else ((y9 / 8) - (y9 / 8) / 10000 * 10000)))) w T z Hs s0 s1 H.size hO hz  hfl) (vx_cwSW 3 hts gL_act_L_trySet rfl rfl rfl (by decide +kernel) ⟨Nat.le_of_ble_eq_true rfl, Nat.le_of_ble_eq_true rfl⟩) (PHZ_S hP hK hN hD hTY hS (F_0 hD hS hA)) rfl rfl hl.1 rfl (lv_room (Nat.le_of_ble_eq_true rfl)) dL_act_203 ⟨Nat.le_of_ble_eq_true rfl, Nat.le_of_ble_eq_true rfl⟩) hD hS hA (fun w H locs hO hP hD hS => ?_)
      have hO : OB y h T (if s_X11_set_k (5 + (y9 - y9 / 6 * 6)) (if (y9 - y9 / 6 * 6) = 0 then ((y9 / 8) - (y9 / 8) / 200 * 200) else (if (y9 - y9 / 6 * 6) = 1 then ((y9 / 8) - (y9 / 8) / 21 * 21) else (if (y9 - y9 / 6 * 6) = 2 then ((y9 / 8) - (y9 / 8) / 100 * 100) else ((y9 / 8) - (y9 / 8) / 10000 * 10000)))) = 0 then (s_X11_set_z (5 + (y9 - y9 / 6 * 6)) (if (y9 - y9 / 6 * 6) = 0 then ((y9 / 8) - (y9 / 8) / 200 * 200) else (if (y9 - y9 / 6 * 6) = 1 then ((y9 / 8) - (y9 / 8) / 21 * 21) else (if (y9 - y9 / 6 * 6) = 2 then ((y9 / 8) - (y9 / 8) / 100 * 100) else ((y9 / 8) - (y9 / 8) / 10000 * 10000)))) z) else z) (if s_X11_set_k (5 + (y9 - y9 / 6 * 6)) (if (y9 - y9 / 6 * 6) = 0 then ((y9 / 8) - (y9 / 8) / 200 * 200) else (if (y9 - y9 / 6 * 6) = 1 then ((y9 / 8) - (y9 / 8) / 21 * 21) else (if (y9 - y9 / 6 * 6) = 2 then ((y9 / 8) - (y9 / 8) / 100 * 100) else ((y9 / 8) - (y9 / 8) / 10000 * 10000)))) = 0 then (hpu z Hs) else Hs) s0 s1 w := oiP mE m2 m2 mE mE hO
      rw [hQQ]
      refine W.widen (k := 2) (n := 12) (by omega) (by omega) ?_
      exact W.iret hx hb hr (end_O (ob_eq (by unfold act_z; exact ((if_neg c_1).trans ((if_neg c_2).trans ((if_neg c_3).trans ((if_neg c_4).trans ((if_neg c_5).trans ((if_neg c_6).trans ((if_neg c_7).trans (if_pos c_12)))))))).symm) (by unfold act_h; exact ((if_neg c_1).trans ((if_neg c_2).trans ((if_neg c_3).trans ((if_neg c_4).trans ((if_neg c_5).trans ((if_neg c_6).trans ((if_neg c_7).trans (if_pos c_12)))))))).symm) (by unfold act_0; exact rfl) (by unfold act_1; exact ((if_neg c_1).trans ((if_neg c_2).trans ((if_neg c_3).trans ((if_neg c_4).trans ((if_neg c_5).trans ((if_neg c_6).trans ((if_neg c_7).trans (if_pos c_12)))))))).symm) hO) hP hD hS (by unfold act_r; exact ((if_neg c_1).trans ((if_neg c_2).trans ((if_neg c_3).trans ((if_neg c_4).trans ((if_neg c_5).trans ((if_neg c_6).trans ((if_neg c_7).trans (if_pos c_12)))))))).symm)) hS.2.2 dL_act_206
    refine lv_if_ne (tgt := 159) hx hb dL_act_145 (by decide) (fun c_13 => ?_) (fun c_13 => ?_)
    · refine lv_iload_n hx hb dL_act_159 rfl (lv_at hl 3 rfl) ?_
      refine lv_bipush (v := 6) hx hb dL_act_160 (by decide) ?_
      refine lv_irem hx hb dL_act_162 (by decide) ?_
      refine lv_iconst (v := 1) hx hb dL_act_163 (by decide) ?_
      refine lv_icmp_ne (tgt := 177) hx hb dL_act_164 (by decide) (fun c_16 => ?_) (fun c_16 => ?_)
      · refine lv_iload_n hx hb dL_act_177 rfl (lv_at hl 3 rfl) ?_
        refine lv_bipush (v := 6) hx hb dL_act_178 (by decide) ?_
        refine lv_irem hx hb dL_act_180 (by decide) ?_
        refine lv_iconst (v := 2) hx hb dL_act_181 (by decide) ?_
        refine lv_icmp_ne (tgt := 195) hx hb dL_act_182 (by decide) (fun c_17 => ?_) (fun c_17 => ?_)
        · refine lv_iload_n hx hb dL_act_195 rfl (lv_at hl 3 rfl) ?_
          refine lv_bipush (v := 8) hx hb dL_act_196 (by decide) ?_
          refine lv_idiv hx hb dL_act_198 (by decide) ?_
          refine lv_sipush (v := 10000) hx hb dL_act_199 (by decide) ?_
          refine lv_irem hx hb dL_act_202 (by decide) ?_
          exact J203_15 _ (((if_neg c_13).trans ((if_neg c_16).trans (if_neg c_17))).symm) w hO H locs hP hD hS ls (lv_sub hl [] rfl)
        · refine lv_iload_n hx hb dL_act_185 rfl (lv_at hl 3 rfl) ?_
          refine lv_bipush (v := 8) hx hb dL_act_186 (by decide) ?_
          refine lv_idiv hx hb dL_act_188 (by decide) ?_
          refine lv_bipush (v := 100) hx hb dL_act_189 (by decide) ?_
          refine lv_irem hx hb dL_act_191 (by decide) ?_
          refine lv_goto (tgt := 203) hx hb dL_act_192 (by decide) ?_
          exact J203_15 _ (((if_neg c_13).trans ((if_neg c_16).trans (if_pos c_17))).symm) w hO H locs hP hD hS ls (lv_sub hl [] rfl)
      · refine lv_iload_n hx hb dL_act_167 rfl (lv_at hl 3 rfl) ?_
        refine lv_bipush (v := 8) hx hb dL_act_168 (by decide) ?_
        refine lv_idiv hx hb dL_act_170 (by decide) ?_
        refine lv_bipush (v := 21) hx hb dL_act_171 (by decide) ?_
        refine lv_irem hx hb dL_act_173 (by decide) ?_
        refine lv_goto (tgt := 203) hx hb dL_act_174 (by decide) ?_
        exact J203_15 _ (((if_neg c_13).trans (if_pos c_16)).symm) w hO H locs hP hD hS ls (lv_sub hl [] rfl)
    · refine lv_iload_n hx hb dL_act_148 rfl (lv_at hl 3 rfl) ?_
      refine lv_bipush (v := 8) hx hb dL_act_149 (by decide) ?_
      refine lv_idiv hx hb dL_act_151 (by decide) ?_
      refine lv_sipush (v := 200) hx hb dL_act_152 (by decide) ?_
      refine lv_irem hx hb dL_act_155 (by decide) ?_
      refine lv_goto (tgt := 203) hx hb dL_act_156 (by decide) ?_
      exact J203_15 _ ((if_pos c_13).symm) w hO H locs hP hD hS ls (lv_sub hl [] rfl)
  rcases Decidable.em ((x - x / 16 * 16) = 8) with c_18 | c_18
  · refine lv_tableIn (tgt := 207) hx hb dL_act_11 (by rw [c_18]; decide) (by rw [c_18]; decide) (by rw [c_18]; first | done | rfl) (by decide) ?_
    refine lv_aload_n hx hb dL_act_207 rfl (lv_at hl 1 rfl) ?_
    refine lv_iload_n hx hb dL_act_208 rfl (lv_at hl 3 rfl) ?_
    refine lv_sipush (v := 161) hx hb dL_act_209 (by decide) ?_
    refine lv_irem hx hb dL_act_212 (by decide) ?_
    refine lv_bipush (v := 80) hx hb dL_act_213 (by decide) ?_
    refine lv_isub hx hb dL_act_215 ?_
    refine cl_O (Φ := (fun w9 => (s_X11_disturb_k ((y9 - y9 / 161 * 161) - 80) = 0 ∧ OB y h T (s_X11_disturb_z ((y9 - y9 / 161 * 161) - 80) z) (hpu z Hs) s0 s1 w9) ∨ (¬ s_X11_disturb_k ((y9 - y9 / 161 * 161) - 80) = 0 ∧ OB y h T z Hs s0 s1 w9))) (vx_runSX (As := [.ref h, .int ((y9 - y9 / 161 * 161) - 80)]) (rest := []) ⟨hx, hb, hml, hown, hts⟩ (w_disturb l G y h ((y9 - y9 / 161 * 161) - 80) w T z Hs s0 s1 H.size hO hz  hfl) (vx_cwSW 2 hts gL_act_L_tryDisturb rfl rfl rfl (by decide +kernel) ⟨Nat.le_of_ble_eq_true rfl, Nat.le_of_ble_eq_true rfl⟩) (PHZ_S hP hK hN hD hTY hS (F_0 hD hS hA)) rfl rfl hl.1 rfl (lv_room (Nat.le_of_ble_eq_true rfl)) dL_act_216 ⟨Nat.le_of_ble_eq_true rfl, Nat.le_of_ble_eq_true rfl⟩) hD hS hA (fun w H locs hO hP hD hS => ?_)
    have hO : OB y h T (if s_X11_disturb_k ((y9 - y9 / 161 * 161) - 80) = 0 then (s_X11_disturb_z ((y9 - y9 / 161 * 161) - 80) z) else z) (if s_X11_disturb_k ((y9 - y9 / 161 * 161) - 80) = 0 then (hpu z Hs) else Hs) s0 s1 w := oiP mE m2 m2 mE mE hO
    rw [hQQ]
    refine W.widen (k := 2) (n := 12) (by omega) (by omega) ?_
    exact W.iret hx hb hr (end_O (ob_eq (by unfold act_z; exact ((if_neg c_1).trans ((if_neg c_2).trans ((if_neg c_3).trans ((if_neg c_4).trans ((if_neg c_5).trans ((if_neg c_6).trans ((if_neg c_7).trans ((if_neg c_12).trans (if_pos c_18))))))))).symm) (by unfold act_h; exact ((if_neg c_1).trans ((if_neg c_2).trans ((if_neg c_3).trans ((if_neg c_4).trans ((if_neg c_5).trans ((if_neg c_6).trans ((if_neg c_7).trans ((if_neg c_12).trans (if_pos c_18))))))))).symm) (by unfold act_0; exact rfl) (by unfold act_1; exact ((if_neg c_1).trans ((if_neg c_2).trans ((if_neg c_3).trans ((if_neg c_4).trans ((if_neg c_5).trans ((if_neg c_6).trans ((if_neg c_7).trans ((if_neg c_12).trans (if_pos c_18))))))))).symm) hO) hP hD hS (by unfold act_r; exact ((if_neg c_1).trans ((if_neg c_2).trans ((if_neg c_3).trans ((if_neg c_4).trans ((if_neg c_5).trans ((if_neg c_6).trans ((if_neg c_7).trans ((if_neg c_12).trans (if_pos c_18))))))))).symm)) hS.2.2 dL_act_219
  rcases Decidable.em ((x - x / 16 * 16) = 9) with c_19 | c_19
  · refine lv_tableIn (tgt := 220) hx hb dL_act_11 (by rw [c_19]; decide) (by rw [c_19]; decide) (by rw [c_19]; first | done | rfl) (by decide) ?_
    refine lv_iload_n hx hb dL_act_220 rfl (lv_at hl 0 rfl) ?_
    refine lv_iconst (v := 3) hx hb dL_act_221 (by decide) ?_
    refine lv_icmp_le (tgt := 235) hx hb dL_act_222 (by decide) (fun c_20 => ?_) (fun c_20 => ?_)
    · refine lv_aload_n hx hb dL_act_235 rfl (lv_at hl 1 rfl) ?_
      refine lv_iconst (v := 1) hx hb dL_act_236 (by decide) ?_
      refine lv_iload_n hx hb dL_act_237 rfl (lv_at hl 3 rfl) ?_
      refine lv_bipush (v := 90) hx hb dL_act_238 (by decide) ?_
      refine lv_irem hx hb dL_act_240 (by decide) ?_
      refine lv_iadd hx hb dL_act_241 ?_
      refine cl_O (Φ := (fun w9 => (s_X11_tick_k (1 + (y9 - y9 / 90 * 90)) = 0 ∧ OB y h T (s_X11_tick_z (1 + (y9 - y9 / 90 * 90)) z) (hpu z Hs) s0 s1 w9) ∨ (¬ s_X11_tick_k (1 + (y9 - y9 / 90 * 90)) = 0 ∧ OB y h T z Hs s0 s1 w9))) (vx_runSX (As := [.ref h, .int (1 + (y9 - y9 / 90 * 90))]) (rest := []) ⟨hx, hb, hml, hown, hts⟩ (w_tick l G y h (1 + (y9 - y9 / 90 * 90)) w T z Hs s0 s1 H.size hO hz  hfl) (vx_cwSW 2 hts gL_act_L_tryTick rfl rfl rfl (by decide +kernel) ⟨Nat.le_of_ble_eq_true rfl, Nat.le_of_ble_eq_true rfl⟩) (PHZ_S hP hK hN hD hTY hS (F_0 hD hS hA)) rfl rfl hl.1 rfl (lv_room (Nat.le_of_ble_eq_true rfl)) dL_act_242 ⟨Nat.le_of_ble_eq_true rfl, Nat.le_of_ble_eq_true rfl⟩) hD hS hA (fun w H locs hO hP hD hS => ?_)
      have hO : OB y h T (if s_X11_tick_k (1 + (y9 - y9 / 90 * 90)) = 0 then (s_X11_tick_z (1 + (y9 - y9 / 90 * 90)) z) else z) (if s_X11_tick_k (1 + (y9 - y9 / 90 * 90)) = 0 then (hpu z Hs) else Hs) s0 s1 w := oiP mE m2 m2 mE mE hO
      rw [hQQ]
      refine W.widen (k := 2) (n := 12) (by omega) (by omega) ?_
      exact W.iret hx hb hr (end_O (ob_eq (by unfold act_z; exact ((if_neg c_1).trans ((if_neg c_2).trans ((if_neg c_3).trans ((if_neg c_4).trans ((if_neg c_5).trans ((if_neg c_6).trans ((if_neg c_7).trans ((if_neg c_12).trans ((if_neg c_18).trans ((if_pos c_19).trans (if_pos c_20))))))))))).symm) (by unfold act_h; exact ((if_neg c_1).trans ((if_neg c_2).trans ((if_neg c_3).trans ((if_neg c_4).trans ((if_neg c_5).trans ((if_neg c_6).trans ((if_neg c_7).trans ((if_neg c_12).trans ((if_neg c_18).trans ((if_pos c_19).trans (if_pos c_20))))))))))).symm) (by unfold act_0; exact rfl) (by unfold act_1; exact ((if_neg c_1).trans ((if_neg c_2).trans ((if_neg c_3).trans ((if_neg c_4).trans ((if_neg c_5).trans ((if_neg c_6).trans ((if_neg c_7).trans ((if_neg c_12).trans ((if_neg c_18).trans (if_pos c_19)))))))))).symm) hO) hP hD hS (by unfold act_r; exact ((if_neg c_1).trans ((if_neg c_2).trans ((if_neg c_3).trans ((if_neg c_4).trans ((if_neg c_5).trans ((if_neg c_6).trans ((if_neg c_7).trans ((if_neg c_12).trans ((if_neg c_18).trans ((if_pos c_19).trans (if_pos c_20))))))))))).symm)) hS.2.2 dL_act_245
    · refine lv_aload_n hx hb dL_act_225 rfl (lv_at hl 1 rfl) ?_
      refine lv_iload_n hx hb dL_act_226 rfl (lv_at hl 3 rfl) ?_
      refine lv_iload_n hx hb dL_act_227 rfl (lv_at hl 0 rfl) ?_
      refine lv_irem hx hb dL_act_228 (n_228 c_1 c_2 c_3 c_4 c_5 c_6 c_7 c_12 c_18 c_19 c_20) ?_
      refine cl_O (Φ := (fun w9 => (s_X11_discard_k (y9 - y9 / (qAbout 16 z) * (qAbout 16 z)) z = 0 ∧ OB y h T (s_X11_discard_z (y9 - y9 / (qAbout 16 z) * (qAbout 16 z)) z) (hpu z Hs) s0 s1 w9) ∨ (¬ s_X11_discard_k (y9 - y9 / (qAbout 16 z) * (qAbout 16 z)) z = 0 ∧ OB y h T z Hs s0 s1 w9))) (vx_runSX (As := [.ref h, .int (y9 - y9 / (qAbout 16 z) * (qAbout 16 z))]) (rest := []) ⟨hx, hb, hml, hown, hts⟩ (w_discard l G y h (y9 - y9 / (qAbout 16 z) * (qAbout 16 z)) w T z Hs s0 s1 H.size hO hz  hfl) (vx_cwSW 2 hts gL_act_L_tryDiscard rfl rfl rfl (by decide +kernel) ⟨Nat.le_of_ble_eq_true rfl, Nat.le_of_ble_eq_true rfl⟩) (PHZ_S hP hK hN hD hTY hS (F_0 hD hS hA)) rfl rfl hl.1 rfl (lv_room (Nat.le_of_ble_eq_true rfl)) dL_act_229 ⟨Nat.le_of_ble_eq_true rfl, Nat.le_of_ble_eq_true rfl⟩) hD hS hA (fun w H locs hO hP hD hS => ?_)
      have hO : OB y h T (if s_X11_discard_k (y9 - y9 / (qAbout 16 z) * (qAbout 16 z)) z = 0 then (s_X11_discard_z (y9 - y9 / (qAbout 16 z) * (qAbout 16 z)) z) else z) (if s_X11_discard_k (y9 - y9 / (qAbout 16 z) * (qAbout 16 z)) z = 0 then (hpu z Hs) else Hs) s0 s1 w := oiP mE m2 m2 mE mE hO
      refine lv_goto (tgt := 245) hx hb dL_act_232 (by decide) ?_
      rw [hQQ]
      refine W.widen (k := 2) (n := 12) (by omega) (by omega) ?_
      exact W.iret hx hb hr (end_O (ob_eq (by unfold act_z; exact ((if_neg c_1).trans ((if_neg c_2).trans ((if_neg c_3).trans ((if_neg c_4).trans ((if_neg c_5).trans ((if_neg c_6).trans ((if_neg c_7).trans ((if_neg c_12).trans ((if_neg c_18).trans ((if_pos c_19).trans (if_neg c_20))))))))))).symm) (by unfold act_h; exact ((if_neg c_1).trans ((if_neg c_2).trans ((if_neg c_3).trans ((if_neg c_4).trans ((if_neg c_5).trans ((if_neg c_6).trans ((if_neg c_7).trans ((if_neg c_12).trans ((if_neg c_18).trans ((if_pos c_19).trans (if_neg c_20))))))))))).symm) (by unfold act_0; exact rfl) (by unfold act_1; exact ((if_neg c_1).trans ((if_neg c_2).trans ((if_neg c_3).trans ((if_neg c_4).trans ((if_neg c_5).trans ((if_neg c_6).trans ((if_neg c_7).trans ((if_neg c_12).trans ((if_neg c_18).trans (if_pos c_19)))))))))).symm) hO) hP hD hS (by unfold act_r; exact ((if_neg c_1).trans ((if_neg c_2).trans ((if_neg c_3).trans ((if_neg c_4).trans ((if_neg c_5).trans ((if_neg c_6).trans ((if_neg c_7).trans ((if_neg c_12).trans ((if_neg c_18).trans ((if_pos c_19).trans (if_neg c_20))))))))))).symm)) hS.2.2 dL_act_245
  rcases Decidable.em ((x - x / 16 * 16) = 10) with c_21 | c_21
  · refine lv_tableIn (tgt := 246) hx hb dL_act_11 (by rw [c_21]; decide) (by rw [c_21]; decide) (by rw [c_21]; first | done | rfl) (by decide) ?_
    refine lv_aload_n hx hb dL_act_246 rfl (lv_at hl 1 rfl) ?_
    refine lv_iload_n hx hb dL_act_247 rfl (lv_at hl 3 rfl) ?_
    refine lv_iconst (v := 4) hx hb dL_act_248 (by decide) ?_
    refine lv_irem hx hb dL_act_249 (by decide) ?_
    refine cl_O (Φ := (fun w9 => (s_X11_tryRule_k (y9 - y9 / 4 * 4) z = 0 ∧ OB y h T (s_X11_tryRule_z (y9 - y9 / 4 * 4) z) (hpu z Hs) s0 s1 w9) ∨ (¬ s_X11_tryRule_k (y9 - y9 / 4 * 4) z = 0 ∧ OB y h T z Hs s0 s1 w9))) (vx_runSX (As := [.ref h, .int (y9 - y9 / 4 * 4)]) (rest := []) ⟨hx, hb, hml, hown, hts⟩ (w_tryRule l G y h (y9 - y9 / 4 * 4) w T z Hs s0 s1 H.size hO hz  hfl) (vx_cwSW 2 hts gL_act_L_tryRule rfl rfl rfl (by decide +kernel) ⟨Nat.le_of_ble_eq_true rfl, Nat.le_of_ble_eq_true rfl⟩) (PHZ_S hP hK hN hD hTY hS (F_0 hD hS hA)) rfl rfl hl.1 rfl (lv_room (Nat.le_of_ble_eq_true rfl)) dL_act_250 ⟨Nat.le_of_ble_eq_true rfl, Nat.le_of_ble_eq_true rfl⟩) hD hS hA (fun w H locs hO hP hD hS => ?_)
    have hO : OB y h T (if s_X11_tryRule_k (y9 - y9 / 4 * 4) z = 0 then (s_X11_tryRule_z (y9 - y9 / 4 * 4) z) else z) (if s_X11_tryRule_k (y9 - y9 / 4 * 4) z = 0 then (hpu z Hs) else Hs) s0 s1 w := oiP mE m2 m2 mE mE hO
    rw [hQQ]
    refine W.widen (k := 2) (n := 12) (by omega) (by omega) ?_
    exact W.iret hx hb hr (end_O (ob_eq (by unfold act_z; exact ((if_neg c_1).trans ((if_neg c_2).trans ((if_neg c_3).trans ((if_neg c_4).trans ((if_neg c_5).trans ((if_neg c_6).trans ((if_neg c_7).trans ((if_neg c_12).trans ((if_neg c_18).trans ((if_neg c_19).trans (if_pos c_21))))))))))).symm) (by unfold act_h; exact ((if_neg c_1).trans ((if_neg c_2).trans ((if_neg c_3).trans ((if_neg c_4).trans ((if_neg c_5).trans ((if_neg c_6).trans ((if_neg c_7).trans ((if_neg c_12).trans ((if_neg c_18).trans ((if_neg c_19).trans (if_pos c_21))))))))))).symm) (by unfold act_0; exact rfl) (by unfold act_1; exact ((if_neg c_1).trans ((if_neg c_2).trans ((if_neg c_3).trans ((if_neg c_4).trans ((if_neg c_5).trans ((if_neg c_6).trans ((if_neg c_7).trans ((if_neg c_12).trans ((if_neg c_18).trans ((if_neg c_19).trans (if_pos c_21))))))))))).symm) hO) hP hD hS (by unfold act_r; exact ((if_neg c_1).trans ((if_neg c_2).trans ((if_neg c_3).trans ((if_neg c_4).trans ((if_neg c_5).trans ((if_neg c_6).trans ((if_neg c_7).trans ((if_neg c_12).trans ((if_neg c_18).trans ((if_neg c_19).trans (if_pos c_21))))))))))).symm)) hS.2.2 dL_act_253
  rcases Decidable.em ((x - x / 16 * 16) = 11) with c_22 | c_22
  · refine lv_tableIn (tgt := 246) hx hb dL_act_11 (by rw [c_22]; decide) (by rw [c_22]; decide) (by rw [c_22]; first | done | rfl) (by decide) ?_
    refine lv_aload_n hx hb dL_act_246 rfl (lv_at hl 1 rfl) ?_
    refine lv_iload_n hx hb dL_act_247 rfl (lv_at hl 3 rfl) ?_
    refine lv_iconst (v := 4) hx hb dL_act_248 (by decide) ?_
    refine lv_irem hx hb dL_act_249 (by decide) ?_
    refine cl_O (Φ := (fun w9 => (s_X11_tryRule_k (y9 - y9 / 4 * 4) z = 0 ∧ OB y h T (s_X11_tryRule_z (y9 - y9 / 4 * 4) z) (hpu z Hs) s0 s1 w9) ∨ (¬ s_X11_tryRule_k (y9 - y9 / 4 * 4) z = 0 ∧ OB y h T z Hs s0 s1 w9))) (vx_runSX (As := [.ref h, .int (y9 - y9 / 4 * 4)]) (rest := []) ⟨hx, hb, hml, hown, hts⟩ (w_tryRule l G y h (y9 - y9 / 4 * 4) w T z Hs s0 s1 H.size hO hz  hfl) (vx_cwSW 2 hts gL_act_L_tryRule rfl rfl rfl (by decide +kernel) ⟨Nat.le_of_ble_eq_true rfl, Nat.le_of_ble_eq_true rfl⟩) (PHZ_S hP hK hN hD hTY hS (F_0 hD hS hA)) rfl rfl hl.1 rfl (lv_room (Nat.le_of_ble_eq_true rfl)) dL_act_250 ⟨Nat.le_of_ble_eq_true rfl, Nat.le_of_ble_eq_true rfl⟩) hD hS hA (fun w H locs hO hP hD hS => ?_)
    have hO : OB y h T (if s_X11_tryRule_k (y9 - y9 / 4 * 4) z = 0 then (s_X11_tryRule_z (y9 - y9 / 4 * 4) z) else z) (if s_X11_tryRule_k (y9 - y9 / 4 * 4) z = 0 then (hpu z Hs) else Hs) s0 s1 w := oiP mE m2 m2 mE mE hO
    rw [hQQ]
    refine W.widen (k := 2) (n := 12) (by omega) (by omega) ?_
    exact W.iret hx hb hr (end_O (ob_eq (by unfold act_z; exact ((if_neg c_1).trans ((if_neg c_2).trans ((if_neg c_3).trans ((if_neg c_4).trans ((if_neg c_5).trans ((if_neg c_6).trans ((if_neg c_7).trans ((if_neg c_12).trans ((if_neg c_18).trans ((if_neg c_19).trans ((if_neg c_21).trans (if_pos c_22)))))))))))).symm) (by unfold act_h; exact ((if_neg c_1).trans ((if_neg c_2).trans ((if_neg c_3).trans ((if_neg c_4).trans ((if_neg c_5).trans ((if_neg c_6).trans ((if_neg c_7).trans ((if_neg c_12).trans ((if_neg c_18).trans ((if_neg c_19).trans ((if_neg c_21).trans (if_pos c_22)))))))))))).symm) (by unfold act_0; exact rfl) (by unfold act_1; exact ((if_neg c_1).trans ((if_neg c_2).trans ((if_neg c_3).trans ((if_neg c_4).trans ((if_neg c_5).trans ((if_neg c_6).trans ((if_neg c_7).trans ((if_neg c_12).trans ((if_neg c_18).trans ((if_neg c_19).trans ((if_neg c_21).trans (if_pos c_22)))))))))))).symm) hO) hP hD hS (by unfold act_r; exact ((if_neg c_1).trans ((if_neg c_2).trans ((if_neg c_3).trans ((if_neg c_4).trans ((if_neg c_5).trans ((if_neg c_6).trans ((if_neg c_7).trans ((if_neg c_12).trans ((if_neg c_18).trans ((if_neg c_19).trans ((if_neg c_21).trans (if_pos c_22)))))))))))).symm)) hS.2.2 dL_act_253
  rcases Decidable.em ((x - x / 16 * 16) = 12) with c_23 | c_23
  · refine lv_tableIn (tgt := 254) hx hb dL_act_11 (by rw [c_23]; decide) (by rw [c_23]; decide) (by rw [c_23]; first | done | rfl) (by decide) ?_
    refine lv_aload_n hx hb dL_act_254 rfl (lv_at hl 1 rfl) ?_
    refine cl_O (Φ := (fun w9 => (s_X11_takeBack_k z = 0 ∧ OB y h T (s_X11_takeBack_z z) (hpu z Hs) s0 s1 w9) ∨ (¬ s_X11_takeBack_k z = 0 ∧ OB y h T z Hs s0 s1 w9))) (vx_runSX (As := [.ref h]) (rest := []) ⟨hx, hb, hml, hown, hts⟩ (w_takeBack l G y h w T z Hs s0 s1 H.size hO hz  hfl) (vx_cwSW 1 hts gL_act_L_tryTakeBack rfl rfl rfl (by decide +kernel) ⟨Nat.le_of_ble_eq_true rfl, Nat.le_of_ble_eq_true rfl⟩) (PHZ_S hP hK hN hD hTY hS (F_0 hD hS hA)) rfl rfl hl.1 rfl (lv_room (Nat.le_of_ble_eq_true rfl)) dL_act_255 ⟨Nat.le_of_ble_eq_true rfl, Nat.le_of_ble_eq_true rfl⟩) hD hS hA (fun w H locs hO hP hD hS => ?_)
    have hO : OB y h T (if s_X11_takeBack_k z = 0 then (s_X11_takeBack_z z) else z) (if s_X11_takeBack_k z = 0 then (hpu z Hs) else Hs) s0 s1 w := oiP mE m2 m2 mE mE hO
    rw [hQQ]
    refine W.widen (k := 2) (n := 12) (by omega) (by omega) ?_
    exact W.iret hx hb hr (end_O (ob_eq (by unfold act_z; exact ((if_neg c_1).trans ((if_neg c_2).trans ((if_neg c_3).trans ((if_neg c_4).trans ((if_neg c_5).trans ((if_neg c_6).trans ((if_neg c_7).trans ((if_neg c_12).trans ((if_neg c_18).trans ((if_neg c_19).trans ((if_neg c_21).trans ((if_neg c_22).trans (if_pos c_23))))))))))))).symm) (by unfold act_h; exact ((if_neg c_1).trans ((if_neg c_2).trans ((if_neg c_3).trans ((if_neg c_4).trans ((if_neg c_5).trans ((if_neg c_6).trans ((if_neg c_7).trans ((if_neg c_12).trans ((if_neg c_18).trans ((if_neg c_19).trans ((if_neg c_21).trans ((if_neg c_22).trans (if_pos c_23))))))))))))).symm) (by unfold act_0; exact rfl) (by unfold act_1; exact ((if_neg c_1).trans ((if_neg c_2).trans ((if_neg c_3).trans ((if_neg c_4).trans ((if_neg c_5).trans ((if_neg c_6).trans ((if_neg c_7).trans ((if_neg c_12).trans ((if_neg c_18).trans ((if_neg c_19).trans ((if_neg c_21).trans ((if_neg c_22).trans (if_pos c_23))))))))))))).symm) hO) hP hD hS (by unfold act_r; exact ((if_neg c_1).trans ((if_neg c_2).trans ((if_neg c_3).trans ((if_neg c_4).trans ((if_neg c_5).trans ((if_neg c_6).trans ((if_neg c_7).trans ((if_neg c_12).trans ((if_neg c_18).trans ((if_neg c_19).trans ((if_neg c_21).trans ((if_neg c_22).trans (if_pos c_23))))))))))))).symm)) hS.2.2 dL_act_258
  rcases Decidable.em ((x - x / 16 * 16) = 13) with c_24 | c_24
  · refine lv_tableIn (tgt := 259) hx hb dL_act_11 (by rw [c_24]; decide) (by rw [c_24]; decide) (by rw [c_24]; first | done | rfl) (by decide) ?_
    refine lv_iload_n hx hb dL_act_259 rfl (lv_at hl 3 rfl) ?_
    refine lv_iconst (v := 3) hx hb dL_act_260 (by decide) ?_
    refine lv_irem hx hb dL_act_261 (by decide) ?_
    refine lv_if_ne (tgt := 272) hx hb dL_act_262 (by decide) (fun c_25 => ?_) (fun c_25 => ?_)
    · refine lv_aload_n hx hb dL_act_272 rfl (lv_at hl 1 rfl) ?_
      refine lv_iconst (v := 1) hx hb dL_act_273 (by decide) ?_
      refine lv_iload_n hx hb dL_act_274 rfl (lv_at hl 3 rfl) ?_
      refine lv_bipush (v := 50) hx hb dL_act_275 (by decide) ?_
      refine lv_irem hx hb dL_act_277 (by decide) ?_
      refine lv_iadd hx hb dL_act_278 ?_
      refine cl_O (Φ := (fun w9 => (s_X11_tick_k (1 + (y9 - y9 / 50 * 50)) = 0 ∧ OB y h T (s_X11_tick_z (1 + (y9 - y9 / 50 * 50)) z) (hpu z Hs) s0 s1 w9) ∨ (¬ s_X11_tick_k (1 + (y9 - y9 / 50 * 50)) = 0 ∧ OB y h T z Hs s0 s1 w9))) (vx_runSX (As := [.ref h, .int (1 + (y9 - y9 / 50 * 50))]) (rest := []) ⟨hx, hb, hml, hown, hts⟩ (w_tick l G y h (1 + (y9 - y9 / 50 * 50)) w T z Hs s0 s1 H.size hO hz  hfl) (vx_cwSW 2 hts gL_act_L_tryTick rfl rfl rfl (by decide +kernel) ⟨Nat.le_of_ble_eq_true rfl, Nat.le_of_ble_eq_true rfl⟩) (PHZ_S hP hK hN hD hTY hS (F_0 hD hS hA)) rfl rfl hl.1 rfl (lv_room (Nat.le_of_ble_eq_true rfl)) dL_act_279 ⟨Nat.le_of_ble_eq_true rfl, Nat.le_of_ble_eq_true rfl⟩) hD hS hA (fun w H locs hO hP hD hS => ?_)
      have hO : OB y h T (if s_X11_tick_k (1 + (y9 - y9 / 50 * 50)) = 0 then (s_X11_tick_z (1 + (y9 - y9 / 50 * 50)) z) else z) (if s_X11_tick_k (1 + (y9 - y9 / 50 * 50)) = 0 then (hpu z Hs) else Hs) s0 s1 w := oiP mE m2 m2 mE mE hO
      rw [hQQ]
      refine W.widen (k := 2) (n := 12) (by omega) (by omega) ?_
      exact W.iret hx hb hr (end_O (ob_eq (by unfold act_z; exact ((if_neg c_1).trans ((if_neg c_2).trans ((if_neg c_3).trans ((if_neg c_4).trans ((if_neg c_5).trans ((if_neg c_6).trans ((if_neg c_7).trans ((if_neg c_12).trans ((if_neg c_18).trans ((if_neg c_19).trans ((if_neg c_21).trans ((if_neg c_22).trans ((if_neg c_23).trans ((if_pos c_24).trans (if_neg c_25))))))))))))))).symm) (by unfold act_h; exact ((if_neg c_1).trans ((if_neg c_2).trans ((if_neg c_3).trans ((if_neg c_4).trans ((if_neg c_5).trans ((if_neg c_6).trans ((if_neg c_7).trans ((if_neg c_12).trans ((if_neg c_18).trans ((if_neg c_19).trans ((if_neg c_21).trans ((if_neg c_22).trans ((if_neg c_23).trans ((if_pos c_24).trans (if_neg c_25))))))))))))))).symm) (by unfold act_0; exact rfl) (by unfold act_1; exact ((if_neg c_1).trans ((if_neg c_2).trans ((if_neg c_3).trans ((if_neg c_4).trans ((if_neg c_5).trans ((if_neg c_6).trans ((if_neg c_7).trans ((if_neg c_12).trans ((if_neg c_18).trans ((if_neg c_19).trans ((if_neg c_21).trans ((if_neg c_22).trans ((if_neg c_23).trans (if_pos c_24)))))))))))))).symm) hO) hP hD hS (by unfold act_r; exact ((if_neg c_1).trans ((if_neg c_2).trans ((if_neg c_3).trans ((if_neg c_4).trans ((if_neg c_5).trans ((if_neg c_6).trans ((if_neg c_7).trans ((if_neg c_12).trans ((if_neg c_18).trans ((if_neg c_19).trans ((if_neg c_21).trans ((if_neg c_22).trans ((if_neg c_23).trans ((if_pos c_24).trans (if_neg c_25))))))))))))))).symm)) hS.2.2 dL_act_282
    · refine lv_aload_n hx hb dL_act_265 rfl (lv_at hl 1 rfl) ?_
      obtain ⟨fs, he⟩ := ob_in hO
      refine cl_OM (Φ := (fun w9 => OB y h T (s_X11_accept_z z) (hpu z Hs) s0 s1 w9)) (va_runV (As := []) (rest := []) ⟨hx, hb, hml, hown, hts⟩ (x_accept l G y h w T z Hs s0 s1 H.size hO hz ) (cwV 0 hts gL_act_X11_accept rfl rfl rfl (by decide +kernel) ⟨Nat.le_of_ble_eq_true rfl, Nat.le_of_ble_eq_true rfl⟩) (PHZ_V he hP hK hN hD hTY hS (F_0 hD hS hA)) rfl rfl hl.1 rfl (lv_room (Nat.le_of_ble_eq_true rfl)) dL_act_266 ⟨Nat.le_of_ble_eq_true rfl, Nat.le_of_ble_eq_true rfl⟩) hD hS hA (fun w H locs hO hP hD hS => ?_)
      refine lv_goto (tgt := 282) hx hb dL_act_269 (by decide) ?_
      rw [hQQ]
      refine W.widen (k := 2) (n := 12) (by omega) (by omega) ?_
      exact W.iret hx hb hr (end_O (ob_eq (by unfold act_z; exact ((if_neg c_1).trans ((if_neg c_2).trans ((if_neg c_3).trans ((if_neg c_4).trans ((if_neg c_5).trans ((if_neg c_6).trans ((if_neg c_7).trans ((if_neg c_12).trans ((if_neg c_18).trans ((if_neg c_19).trans ((if_neg c_21).trans ((if_neg c_22).trans ((if_neg c_23).trans ((if_pos c_24).trans (if_pos c_25))))))))))))))).symm) (by unfold act_h; exact ((if_neg c_1).trans ((if_neg c_2).trans ((if_neg c_3).trans ((if_neg c_4).trans ((if_neg c_5).trans ((if_neg c_6).trans ((if_neg c_7).trans ((if_neg c_12).trans ((if_neg c_18).trans ((if_neg c_19).trans ((if_neg c_21).trans ((if_neg c_22).trans ((if_neg c_23).trans ((if_pos c_24).trans (if_pos c_25))))))))))))))).symm) (by unfold act_0; exact rfl) (by unfold act_1; exact ((if_neg c_1).trans ((if_neg c_2).trans ((if_neg c_3).trans ((if_neg c_4).trans ((if_neg c_5).trans ((if_neg c_6).trans ((if_neg c_7).trans ((if_neg c_12).trans ((if_neg c_18).trans ((if_neg c_19).trans ((if_neg c_21).trans ((if_neg c_22).trans ((if_neg c_23).trans (if_pos c_24)))))))))))))).symm) hO) hP hD hS (by unfold act_r; exact ((if_neg c_1).trans ((if_neg c_2).trans ((if_neg c_3).trans ((if_neg c_4).trans ((if_neg c_5).trans ((if_neg c_6).trans ((if_neg c_7).trans ((if_neg c_12).trans ((if_neg c_18).trans ((if_neg c_19).trans ((if_neg c_21).trans ((if_neg c_22).trans ((if_neg c_23).trans ((if_pos c_24).trans (if_pos c_25))))))))))))))).symm)) hS.2.2 dL_act_282
  rcases Decidable.em ((x - x / 16 * 16) = 14) with c_26 | c_26
  · refine lv_tableIn (tgt := 283) hx hb dL_act_11 (by rw [c_26]; decide) (by rw [c_26]; decide) (by rw [c_26]; first | done | rfl) (by decide) ?_
    refine lv_aload_n hx hb dL_act_283 rfl (lv_at hl 1 rfl) ?_
    refine cl_O (Φ := (fun w9 => (kUnd Hs = 0 ∧ OB y h T (Hs.getD 0 zI) Hs.tail s0 s1 w9) ∨ (¬ kUnd Hs = 0 ∧ OB y h T z Hs s0 s1 w9))) (vx_runSX (As := [.ref h]) (rest := []) ⟨hx, hb, hml, hown, hts⟩ (w_undo l G y h w T z Hs s0 s1 H.size hO hz  hfl) (vx_cwSW 1 hts gL_act_L_tryUndo rfl rfl rfl (by decide +kernel) ⟨Nat.le_of_ble_eq_true rfl, Nat.le_of_ble_eq_true rfl⟩) (PHZ_S hP hK hN hD hTY hS (F_0 hD hS hA)) rfl rfl hl.1 rfl (lv_room (Nat.le_of_ble_eq_true rfl)) dL_act_284 ⟨Nat.le_of_ble_eq_true rfl, Nat.le_of_ble_eq_true rfl⟩) hD hS hA (fun w H locs hO hP hD hS => ?_)
    have hO : OB y h T (if kUnd Hs = 0 then (Hs.getD 0 zI) else z) (if kUnd Hs = 0 then Hs.tail else Hs) s0 s1 w := oiP mE m2 m2 mE mE hO
    rw [hQQ]
    refine W.widen (k := 2) (n := 12) (by omega) (by omega) ?_
    exact W.iret hx hb hr (end_O (ob_eq (by unfold act_z; exact ((if_neg c_1).trans ((if_neg c_2).trans ((if_neg c_3).trans ((if_neg c_4).trans ((if_neg c_5).trans ((if_neg c_6).trans ((if_neg c_7).trans ((if_neg c_12).trans ((if_neg c_18).trans ((if_neg c_19).trans ((if_neg c_21).trans ((if_neg c_22).trans ((if_neg c_23).trans ((if_neg c_24).trans (if_pos c_26))))))))))))))).symm) (by unfold act_h; exact ((if_neg c_1).trans ((if_neg c_2).trans ((if_neg c_3).trans ((if_neg c_4).trans ((if_neg c_5).trans ((if_neg c_6).trans ((if_neg c_7).trans ((if_neg c_12).trans ((if_neg c_18).trans ((if_neg c_19).trans ((if_neg c_21).trans ((if_neg c_22).trans ((if_neg c_23).trans ((if_neg c_24).trans (if_pos c_26))))))))))))))).symm) (by unfold act_0; exact rfl) (by unfold act_1; exact ((if_neg c_1).trans ((if_neg c_2).trans ((if_neg c_3).trans ((if_neg c_4).trans ((if_neg c_5).trans ((if_neg c_6).trans ((if_neg c_7).trans ((if_neg c_12).trans ((if_neg c_18).trans ((if_neg c_19).trans ((if_neg c_21).trans ((if_neg c_22).trans ((if_neg c_23).trans ((if_neg c_24).trans (if_pos c_26))))))))))))))).symm) hO) hP hD hS (by unfold act_r; exact ((if_neg c_1).trans ((if_neg c_2).trans ((if_neg c_3).trans ((if_neg c_4).trans ((if_neg c_5).trans ((if_neg c_6).trans ((if_neg c_7).trans ((if_neg c_12).trans ((if_neg c_18).trans ((if_neg c_19).trans ((if_neg c_21).trans ((if_neg c_22).trans ((if_neg c_23).trans ((if_neg c_24).trans (if_pos c_26))))))))))))))).symm)) hS.2.2 dL_act_287
  refine lv_tableOut (tgt := 288) hx hb dL_act_11 (by have e0 : (x - x / 16 * 16).toInt ≠ 0 := fun h => c_1 (Int32.toInt_inj.mp h); have e1 : (x - x / 16 * 16).toInt ≠ 1 := fun h => c_2 (Int32.toInt_inj.mp h); have e2 : (x - x / 16 * 16).toInt ≠ 2 := fun h => c_3 (Int32.toInt_inj.mp h); have e3 : (x - x / 16 * 16).toInt ≠ 3 := fun h => c_4 (Int32.toInt_inj.mp h); have e4 : (x - x / 16 * 16).toInt ≠ 4 := fun h => c_5 (Int32.toInt_inj.mp h); have e5 : (x - x / 16 * 16).toInt ≠ 5 := fun h => c_6 (Int32.toInt_inj.mp h); have e6 : (x - x / 16 * 16).toInt ≠ 6 := fun h => c_7 (Int32.toInt_inj.mp h); have e7 : (x - x / 16 * 16).toInt ≠ 7 := fun h => c_12 (Int32.toInt_inj.mp h); have e8 : (x - x / 16 * 16).toInt ≠ 8 := fun h => c_18 (Int32.toInt_inj.mp h); have e9 : (x - x / 16 * 16).toInt ≠ 9 := fun h => c_19 (Int32.toInt_inj.mp h); have e10 : (x - x / 16 * 16).toInt ≠ 10 := fun h => c_21 (Int32.toInt_inj.mp h); have e11 : (x - x / 16 * 16).toInt ≠ 11 := fun h => c_22 (Int32.toInt_inj.mp h); have e12 : (x - x / 16 * 16).toInt ≠ 12 := fun h => c_23 (Int32.toInt_inj.mp h); have e13 : (x - x / 16 * 16).toInt ≠ 13 := fun h => c_24 (Int32.toInt_inj.mp h); have e14 : (x - x / 16 * 16).toInt ≠ 14 := fun h => c_26 (Int32.toInt_inj.mp h); omega) (by decide) ?_
  refine lv_iload_n hx hb dL_act_288 rfl (lv_at hl 3 rfl) ?_
  refine lv_iconst (v := 2) hx hb dL_act_289 (by decide) ?_
  refine lv_irem hx hb dL_act_290 (by decide) ?_
  refine lv_if_ne (tgt := 302) hx hb dL_act_291 (by decide) (fun c_27 => ?_) (fun c_27 => ?_)
  · refine lv_aload_n hx hb dL_act_302 rfl (lv_at hl 1 rfl) ?_
    refine lv_iconst (v := 1) hx hb dL_act_303 (by decide) ?_
    refine cl_O (Φ := (fun w9 => (kRes 1 s0 s1 = 0 ∧ OB y h T (s1.getD zI) [] s0 s1 w9) ∨ (¬ kRes 1 s0 s1 = 0 ∧ OB y h T z Hs s0 s1 w9))) (vx_runSX (As := [.ref h, .int 1]) (rest := []) ⟨hx, hb, hml, hown, hts⟩ (w_restore l G y h 1 w T z Hs s0 s1 H.size hO hz  hfl) (vx_cwSW 2 hts gL_act_L_tryRestore rfl rfl rfl (by decide +kernel) ⟨Nat.le_of_ble_eq_true rfl, Nat.le_of_ble_eq_true rfl⟩) (PHZ_S hP hK hN hD hTY hS (F_0 hD hS hA)) rfl rfl hl.1 rfl (lv_room (Nat.le_of_ble_eq_true rfl)) dL_act_304 ⟨Nat.le_of_ble_eq_true rfl, Nat.le_of_ble_eq_true rfl⟩) hD hS hA (fun w H locs hO hP hD hS => ?_)
    have hO : OB y h T (if kRes 1 s0 s1 = 0 then (s1.getD zI) else z) (if kRes 1 s0 s1 = 0 then [] else Hs) s0 s1 w := oiP mE m2 m2 mE mE hO
    rw [hQQ]
    refine W.widen (k := 2) (n := 12) (by omega) (by omega) ?_
    exact W.iret hx hb hr (end_O (ob_eq (by unfold act_z; exact ((if_neg c_1).trans ((if_neg c_2).trans ((if_neg c_3).trans ((if_neg c_4).trans ((if_neg c_5).trans ((if_neg c_6).trans ((if_neg c_7).trans ((if_neg c_12).trans ((if_neg c_18).trans ((if_neg c_19).trans ((if_neg c_21).trans ((if_neg c_22).trans ((if_neg c_23).trans ((if_neg c_24).trans ((if_neg c_26).trans (if_neg c_27)))))))))))))))).symm) (by unfold act_h; exact ((if_neg c_1).trans ((if_neg c_2).trans ((if_neg c_3).trans ((if_neg c_4).trans ((if_neg c_5).trans ((if_neg c_6).trans ((if_neg c_7).trans ((if_neg c_12).trans ((if_neg c_18).trans ((if_neg c_19).trans ((if_neg c_21).trans ((if_neg c_22).trans ((if_neg c_23).trans ((if_neg c_24).trans ((if_neg c_26).trans (if_neg c_27)))))))))))))))).symm) (by unfold act_0; exact rfl) (by unfold act_1; exact ((if_neg c_1).trans ((if_neg c_2).trans ((if_neg c_3).trans ((if_neg c_4).trans ((if_neg c_5).trans ((if_neg c_6).trans ((if_neg c_7).trans ((if_neg c_12).trans ((if_neg c_18).trans ((if_neg c_19).trans ((if_neg c_21).trans ((if_neg c_22).trans ((if_neg c_23).trans ((if_neg c_24).trans ((if_neg c_26).trans (if_neg c_27)))))))))))))))).symm) hO) hP hD hS (by unfold act_r; exact ((if_neg c_1).trans ((if_neg c_2).trans ((if_neg c_3).trans ((if_neg c_4).trans ((if_neg c_5).trans ((if_neg c_6).trans ((if_neg c_7).trans ((if_neg c_12).trans ((if_neg c_18).trans ((if_neg c_19).trans ((if_neg c_21).trans ((if_neg c_22).trans ((if_neg c_23).trans ((if_neg c_24).trans ((if_neg c_26).trans (if_neg c_27)))))))))))))))).symm)) hS.2.2 dL_act_307
  · refine lv_aload_n hx hb dL_act_294 rfl (lv_at hl 1 rfl) ?_
    refine lv_iconst (v := 1) hx hb dL_act_295 (by decide) ?_
    refine cl_O (Φ := (fun w9 => (s_X11_save_k 1 = 0 ∧ OB y h T z Hs s0 (some z) w9) ∨ (¬ s_X11_save_k 1 = 0 ∧ OB y h T z Hs s0 s1 w9))) (vx_runSX (As := [.ref h, .int 1]) (rest := []) ⟨hx, hb, hml, hown, hts⟩ (w_save l G y h 1 w T z Hs s0 s1 H.size hO hz  hfl) (vx_cwSW 2 hts gL_act_L_trySave rfl rfl rfl (by decide +kernel) ⟨Nat.le_of_ble_eq_true rfl, Nat.le_of_ble_eq_true rfl⟩) (PHZ_S hP hK hN hD hTY hS (F_0 hD hS hA)) rfl rfl hl.1 rfl (lv_room (Nat.le_of_ble_eq_true rfl)) dL_act_296 ⟨Nat.le_of_ble_eq_true rfl, Nat.le_of_ble_eq_true rfl⟩) hD hS hA (fun w H locs hO hP hD hS => ?_)
    have hO : OB y h T z Hs s0 (if s_X11_save_k 1 = 0 then (some z) else s1) w := oiP mE mE mE mE m2 hO
    refine lv_goto (tgt := 307) hx hb dL_act_299 (by decide) ?_
    rw [hQQ]
    refine W.widen (k := 2) (n := 12) (by omega) (by omega) ?_
    exact W.iret hx hb hr (end_O (ob_eq (by unfold act_z; exact ((if_neg c_1).trans ((if_neg c_2).trans ((if_neg c_3).trans ((if_neg c_4).trans ((if_neg c_5).trans ((if_neg c_6).trans ((if_neg c_7).trans ((if_neg c_12).trans ((if_neg c_18).trans ((if_neg c_19).trans ((if_neg c_21).trans ((if_neg c_22).trans ((if_neg c_23).trans ((if_neg c_24).trans ((if_neg c_26).trans (if_pos c_27)))))))))))))))).symm) (by unfold act_h; exact ((if_neg c_1).trans ((if_neg c_2).trans ((if_neg c_3).trans ((if_neg c_4).trans ((if_neg c_5).trans ((if_neg c_6).trans ((if_neg c_7).trans ((if_neg c_12).trans ((if_neg c_18).trans ((if_neg c_19).trans ((if_neg c_21).trans ((if_neg c_22).trans ((if_neg c_23).trans ((if_neg c_24).trans ((if_neg c_26).trans (if_pos c_27)))))))))))))))).symm) (by unfold act_0; exact rfl) (by unfold act_1; exact ((if_neg c_1).trans ((if_neg c_2).trans ((if_neg c_3).trans ((if_neg c_4).trans ((if_neg c_5).trans ((if_neg c_6).trans ((if_neg c_7).trans ((if_neg c_12).trans ((if_neg c_18).trans ((if_neg c_19).trans ((if_neg c_21).trans ((if_neg c_22).trans ((if_neg c_23).trans ((if_neg c_24).trans ((if_neg c_26).trans (if_pos c_27)))))))))))))))).symm) hO) hP hD hS (by unfold act_r; exact ((if_neg c_1).trans ((if_neg c_2).trans ((if_neg c_3).trans ((if_neg c_4).trans ((if_neg c_5).trans ((if_neg c_6).trans ((if_neg c_7).trans ((if_neg c_12).trans ((if_neg c_18).trans ((if_neg c_19).trans ((if_neg c_21).trans ((if_neg c_22).trans ((if_neg c_23).trans ((if_neg c_24).trans ((if_neg c_26).trans (if_pos c_27)))))))))))))))).symm)) hS.2.2 dL_act_307

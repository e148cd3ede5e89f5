abbrev rmL_refuses : Room := ({ frames := 9, cells := 39, slots := 234, locals := 215 } : Room)
set_option maxHeartbeats 2000000 in
set_option maxRecDepth 20000 in
theorem c_L_refuses (l : Launch) (G : va_G) (y : Nat → ClassId) (h : Nat)  (w : va_W) (T : List Int32) (z : Zs) (Hs : List Zs) (s0 s1 : Option Zs) (sz : Nat) (hO : OB y h T z Hs s0 s1 w) (hz : TS z) (hF : FX_refuses T z Hs s0 s1) (hfl : l.stackTraces = false) : Met l yL_refuses wsL_refuses rmL_refuses (PHZ G y [.ref h] w sz) (QO G 1 (fun w9 => OB y h T z Hs s0 s1 w9) (va_A w sz)) 39 234 (va_A w sz) := by
  refine Met.ofW (cc := cL_refuses) (maxL := 5) (ret := (some .boolean)) (by decide) rfl ?_
  intro p e s m args below meth c s₁ B hml hv
  obtain ⟨rfl, hsz, hP, ⟨hK, hN⟩, hD0, hTY⟩ := hv
  have hx := B.exec
  have hb := B.bytes
  have hr := B.returns
  have hts := atoms_spec (ws := wsL_refuses) B.pre
  have hown : s.vm.findClass RL = some m.cls := findClass_of_methodNamed B.named
  subst hsz
  have hD := hD0.self (sz := s.heap.size)
  generalize hAe : va_A w s.heap.size = A at hD hTY ⊢
  have hA : ∀ q : Nat, s.heap.size ≤ q → A q := fun q h => by rw [← hAe]; exact Or.inr h
  have hS : va_S A s.heap s.heap [] := va_S.rf
  obtain ⟨f_37, f_48, f_74, k_79, f_84, k_91, f_96, k_101, f_106, k_112, f_117, k_125, f_130, k_138, f_143, k_151, f_156, k_165, f_170, k_177, f_182, k_189, f_194, k_201, f_206, k_211, f_216, k_221, f_226, f_282, f_293, f_303, f_314, f_327, f_338, f_350, f_362, f_374, f_384, f_395, f_406, f_419, f_431, k_436, f_441, k_446, f_451, k_458, f_463, k_254, f_259, k_241, f_246, k_241b, f_246b, f_63⟩ := hF
  have hl := lv_entry ([.ref h]) (n := 5) (Nat.le_of_ble_eq_true rfl)
  rw [lg_entry_eq]
  generalize (lg_sl ([.ref h]) ++ List.replicate (5 - (lg_sl ([.ref h])).length) Slot.unset).toArray = ls at hl ⊢
  have hl : lv_has ls 5 [(0, .ref h)] := hl
  obtain ⟨QQ, hQQ⟩ : ∃ zq9, zq9 = MQ below (QO G 1 (fun w9 => OB y h T z Hs s0 s1 w9) A) ([.ref h] : List Value).toArray s 39 234 A := ⟨_, rfl⟩
  rw [← hQQ]
  refine lv_aload_n hx hb dL_refuses_0 rfl (lv_at hl 0 rfl) ?_
  refine lv_bipush (v := 16) hx hb dL_refuses_1 (by decide) ?_
  refine cl_O (Φ := (fun w9 => OB y h T z Hs s0 s1 w9)) (vx_runSX (As := [.ref h, .int 16]) (rest := []) ⟨hx, hb, hml, hown, hts⟩ (w_about l G y h 16 w T z Hs s0 s1 s.heap.size hO hz  hfl) (vx_cwSW 2 hts gL_refuses_L_tryAbout rfl rfl rfl (by decide +kernel) ⟨Nat.le_of_ble_eq_true rfl, Nat.le_of_ble_eq_true rfl⟩) (PHZ_S hP hK hN hD hTY hS (F_0 hD hS hA)) rfl rfl hl.1 rfl (lv_room (Nat.le_of_ble_eq_true rfl)) dL_refuses_3 ⟨Nat.le_of_ble_eq_true rfl, Nat.le_of_ble_eq_true rfl⟩) hD hS hA (fun w H locs hO hP hD hS => ?_)
  refine lv_istore_n (lv' := [(1, .int (qAbout 16 z)), (0, .ref h)]) hx hb dL_refuses_6 rfl hl (by decide) rfl (fun ls hl => ?_)
  refine lv_aload_n hx hb dL_refuses_7 rfl (lv_at hl 1 rfl) ?_
  refine lv_bipush (v := 17) hx hb dL_refuses_8 (by decide) ?_
  refine cl_O (Φ := (fun w9 => OB y h T z Hs s0 s1 w9)) (vx_runSX (As := [.ref h, .int 17]) (rest := []) ⟨hx, hb, hml, hown, hts⟩ (w_about l G y h 17 w T z Hs s0 s1 H.size hO hz  hfl) (vx_cwSW 2 hts gL_refuses_L_tryAbout rfl rfl rfl (by decide +kernel) ⟨Nat.le_of_ble_eq_true rfl, Nat.le_of_ble_eq_true rfl⟩) (PHZ_S hP hK hN hD hTY hS (F_0 hD hS hA)) rfl rfl hl.1 rfl (lv_room (Nat.le_of_ble_eq_true rfl)) dL_refuses_10 ⟨Nat.le_of_ble_eq_true rfl, Nat.le_of_ble_eq_true rfl⟩) hD hS hA (fun w H locs hO hP hD hS => ?_)
  have J21_3 : ∀ (v_2 : Int32) (e_v_2 : v_2 = (if (qAbout 17 z) = 0 then (1 : Int32) else (0 : Int32))) (w : va_W) (hO : OB y h T z Hs s0 s1 w) (H : Heap) (locs : List Loc) (hP : va_P G vwCl w H) (hD : va_D A w) (hS : va_S A s.heap H locs) (ls : Array Slot) (hl : lv_has ls 5 [(1, .int (qAbout 16 z)), (0, .ref h)]), W p l e (headSpec wsL_refuses rmL_refuses).room s m ([.ref h] : List Value).toArray below meth c H locs 2 12 QQ (F0 m 21 ls [.int v_2]) := by
    intro v_2 e_v_2 w hO H locs hP hD hS ls hl
    subst e_v_2
    refine lv_istore_n (lv' := [(2, .int (if (qAbout 17 z) = 0 then (1 : Int32) else (0 : Int32))), (1, .int (qAbout 16 z)), (0, .ref h)]) hx hb dL_refuses_21 rfl hl (by decide) rfl (fun ls hl => ?_)
    refine lv_aload_n hx hb dL_refuses_22 rfl (lv_at hl 2 rfl) ?_
    refine lv_bipush (v := 18) hx hb dL_refuses_23 (by decide) ?_
    refine cl_O (Φ := (fun w9 => OB y h T z Hs s0 s1 w9)) (vx_runSX (As := [.ref h, .int 18]) (rest := []) ⟨hx, hb, hml, hown, hts⟩ (w_about l G y h 18 w T z Hs s0 s1 H.size hO hz  hfl) (vx_cwSW 2 hts gL_refuses_L_tryAbout rfl rfl rfl (by decide +kernel) ⟨Nat.le_of_ble_eq_true rfl, Nat.le_of_ble_eq_true rfl⟩) (PHZ_S hP hK hN hD hTY hS (F_0 hD hS hA)) rfl rfl hl.1 rfl (lv_room (Nat.le_of_ble_eq_true rfl)) dL_refuses_25 ⟨Nat.le_of_ble_eq_true rfl, Nat.le_of_ble_eq_true rfl⟩) hD hS hA (fun w H locs hO hP hD hS => ?_)
    refine lv_istore_n (lv' := [(3, .int (qAbout 18 z)), (2, .int (if (qAbout 17 z) = 0 then (1 : Int32) else (0 : Int32))), (1, .int (qAbout 16 z)), (0, .ref h)]) hx hb dL_refuses_28 rfl hl (by decide) rfl (fun ls hl => ?_)
    refine lv_aload_n hx hb dL_refuses_29 rfl (lv_at hl 3 rfl) ?_
    refine lv_bipush (v := 20) hx hb dL_refuses_30 (by decide) ?_
    refine cl_O (Φ := (fun w9 => OB y h T z Hs s0 s1 w9)) (vx_runSX (As := [.ref h, .int 20]) (rest := []) ⟨hx, hb, hml, hown, hts⟩ (w_about l G y h 20 w T z Hs s0 s1 H.size hO hz  hfl) (vx_cwSW 2 hts gL_refuses_L_tryAbout rfl rfl rfl (by decide +kernel) ⟨Nat.le_of_ble_eq_true rfl, Nat.le_of_ble_eq_true rfl⟩) (PHZ_S hP hK hN hD hTY hS (F_0 hD hS hA)) rfl rfl hl.1 rfl (lv_room (Nat.le_of_ble_eq_true rfl)) dL_refuses_32 ⟨Nat.le_of_ble_eq_true rfl, Nat.le_of_ble_eq_true rfl⟩) hD hS hA (fun w H locs hO hP hD hS => ?_)
    refine lv_ldc (v := (-999002)) hx hb hown (hts (.constant RL 15 (-999002)) (by decide +kernel)) dL_refuses_35 ?_
    refine lv_icmp_ne (tgt := 266) hx hb dL_refuses_37 (by decide) (fun c9 => absurd f_37 c9) (fun _ => ?_)
    refine lv_aload_n hx hb dL_refuses_40 rfl (lv_at hl 3 rfl) ?_
    refine lv_iload_n hx hb dL_refuses_41 rfl (lv_at hl 2 rfl) ?_
    refine lv_iconst (v := 5) hx hb dL_refuses_42 (by decide) ?_
    refine cl_O (Φ := (fun w9 => OB y h T z Hs s0 s1 w9)) (vx_runSX (As := [.ref h, .int (qAbout 16 z), .int 5]) (rest := []) ⟨hx, hb, hml, hown, hts⟩ (w_swing l G y h (qAbout 16 z) 5 w T z Hs s0 s1 H.size hO hz  hfl) (vx_cwSW 3 hts gL_refuses_L_trySwing rfl rfl rfl (by decide +kernel) ⟨Nat.le_of_ble_eq_true rfl, Nat.le_of_ble_eq_true rfl⟩) (PHZ_S hP hK hN hD hTY hS (F_0 hD hS hA)) rfl rfl hl.1 rfl (lv_room (Nat.le_of_ble_eq_true rfl)) dL_refuses_43 ⟨Nat.le_of_ble_eq_true rfl, Nat.le_of_ble_eq_true rfl⟩) hD hS hA (fun w H locs hO hP hD hS => ?_)
    refine lv_ldc (v := (-999001)) hx hb hown (hts (.constant RL 32 (-999001)) (by decide +kernel)) dL_refuses_46 ?_
    refine lv_icmp_ne (tgt := 266) hx hb dL_refuses_48 (by decide) (fun c9 => absurd f_48 c9) (fun _ => ?_)
    refine lv_iload_n hx hb dL_refuses_51 rfl (lv_at hl 2 rfl) ?_
    have J66_7 : ∀  (w : va_W) (hO : OB y h T z Hs s0 s1 w) (H : Heap) (locs : List Loc) (hP : va_P G vwCl w H) (hD : va_D A w) (hS : va_S A s.heap H locs) (ls : Array Slot) (hl : lv_has ls 5 [(3, .int (qAbout 18 z)), (2, .int (if (qAbout 17 z) = 0 then (1 : Int32) else (0 : Int32))), (1, .int (qAbout 16 z)), (0, .ref h)]), W p l e (headSpec wsL_refuses rmL_refuses).room s m ([.ref h] : List Value).toArray below meth c H locs 6 36 QQ (F0 m 66 ls []) := by
      intro w hO H locs hP hD hS ls hl
      refine lv_aload_n hx hb dL_refuses_66 rfl (lv_at hl 3 rfl) ?_
      refine lv_bipush (v := 7) hx hb dL_refuses_67 (by decide) ?_
      refine cl_O (Φ := (fun w9 => OB y h T z Hs s0 s1 w9)) (vx_runSX (As := [.ref h, .int 7]) (rest := []) ⟨hx, hb, hml, hown, hts⟩ (w_account l G y h 7 w T z Hs s0 s1 H.size hO hz  hfl) (vx_cwSW 2 hts gL_refuses_L_tryAccount rfl rfl rfl (by decide +kernel) ⟨Nat.le_of_ble_eq_true rfl, Nat.le_of_ble_eq_true rfl⟩) (PHZ_S hP hK hN hD hTY hS (F_0 hD hS hA)) rfl rfl hl.1 rfl (lv_room (Nat.le_of_ble_eq_true rfl)) dL_refuses_69 ⟨Nat.le_of_ble_eq_true rfl, Nat.le_of_ble_eq_true rfl⟩) hD hS hA (fun w H locs hO hP hD hS => ?_)
      refine lv_ldc (v := (-999002)) hx hb hown (hts (.constant RL 15 (-999002)) (by decide +kernel)) dL_refuses_72 ?_
      refine lv_icmp_ne (tgt := 266) hx hb dL_refuses_74 (by decide) (fun c9 => absurd f_74 c9) (fun _ => ?_)
      refine lv_aload_n hx hb dL_refuses_77 rfl (lv_at hl 3 rfl) ?_
      refine lv_iconst (v := 0) hx hb dL_refuses_78 (by decide) ?_
      refine cl_O (Φ := (fun w9 => (s_X11_tick_k 0 = 0 ∧ OB y h T (s_X11_tick_z 0 z) (hpu z Hs) s0 s1 w9) ∨ (¬ s_X11_tick_k 0 = 0 ∧ OB y h T z Hs s0 s1 w9))) (vx_runSX (As := [.ref h, .int 0]) (rest := []) ⟨hx, hb, hml, hown, hts⟩ (w_tick l G y h 0 w T z Hs s0 s1 H.size hO hz  hfl) (vx_cwSW 2 hts gL_refuses_L_tryTick rfl rfl rfl (by decide +kernel) ⟨Nat.le_of_ble_eq_true rfl, Nat.le_of_ble_eq_true rfl⟩) (PHZ_S hP hK hN hD hTY hS (F_0 hD hS hA)) rfl rfl hl.1 rfl (lv_room (Nat.le_of_ble_eq_true rfl)) dL_refuses_79 ⟨Nat.le_of_ble_eq_true rfl, Nat.le_of_ble_eq_true rfl⟩) hD hS hA (fun w H locs hO hP hD hS => ?_)
      have hO : OB y h T z Hs s0 s1 w := on k_79 hO
      refine lv_ldc (v := (-999002)) hx hb hown (hts (.constant RL 15 (-999002)) (by decide +kernel)) dL_refuses_82 ?_
      refine lv_icmp_ne (tgt := 266) hx hb dL_refuses_84 (by decide) (fun c9 => absurd f_84 c9) (fun _ => ?_)
      refine lv_aload_n hx hb dL_refuses_87 rfl (lv_at hl 3 rfl) ?_
      refine lv_sipush (v := 201) hx hb dL_refuses_88 (by decide) ?_
      refine cl_O (Φ := (fun w9 => (s_X11_tick_k 201 = 0 ∧ OB y h T (s_X11_tick_z 201 z) (hpu z Hs) s0 s1 w9) ∨ (¬ s_X11_tick_k 201 = 0 ∧ OB y h T z Hs s0 s1 w9))) (vx_runSX (As := [.ref h, .int 201]) (rest := []) ⟨hx, hb, hml, hown, hts⟩ (w_tick l G y h 201 w T z Hs s0 s1 H.size hO hz  hfl) (vx_cwSW 2 hts gL_refuses_L_tryTick rfl rfl rfl (by decide +kernel) ⟨Nat.le_of_ble_eq_true rfl, Nat.le_of_ble_eq_true rfl⟩) (PHZ_S hP hK hN hD hTY hS (F_0 hD hS hA)) rfl rfl hl.1 rfl (lv_room (Nat.le_of_ble_eq_true rfl)) dL_refuses_91 ⟨Nat.le_of_ble_eq_true rfl, Nat.le_of_ble_eq_true rfl⟩) hD hS hA (fun w H locs hO hP hD hS => ?_)
      have hO : OB y h T z Hs s0 s1 w := on k_91 hO
      refine lv_ldc (v := (-999002)) hx hb hown (hts (.constant RL 15 (-999002)) (by decide +kernel)) dL_refuses_94 ?_
      refine lv_icmp_ne (tgt := 266) hx hb dL_refuses_96 (by decide) (fun c9 => absurd f_96 c9) (fun _ => ?_)
      refine lv_aload_n hx hb dL_refuses_99 rfl (lv_at hl 3 rfl) ?_
      refine lv_iconst (v := 3) hx hb dL_refuses_100 (by decide) ?_
      refine cl_O (Φ := (fun w9 => (s_X11_mode_k 3 = 0 ∧ OB y h T (s_X11_mode_z 3 z) (hpu z Hs) s0 s1 w9) ∨ (¬ s_X11_mode_k 3 = 0 ∧ OB y h T z Hs s0 s1 w9))) (vx_runSX (As := [.ref h, .int 3]) (rest := []) ⟨hx, hb, hml, hown, hts⟩ (w_mode l G y h 3 w T z Hs s0 s1 H.size hO hz  hfl) (vx_cwSW 2 hts gL_refuses_L_tryMode rfl rfl rfl (by decide +kernel) ⟨Nat.le_of_ble_eq_true rfl, Nat.le_of_ble_eq_true rfl⟩) (PHZ_S hP hK hN hD hTY hS (F_0 hD hS hA)) rfl rfl hl.1 rfl (lv_room (Nat.le_of_ble_eq_true rfl)) dL_refuses_101 ⟨Nat.le_of_ble_eq_true rfl, Nat.le_of_ble_eq_true rfl⟩) hD hS hA (fun w H locs hO hP hD hS => ?_)
      have hO : OB y h T z Hs s0 s1 w := on k_101 hO
      refine lv_ldc (v := (-999002)) hx hb hown (hts (.constant RL 15 (-999002)) (by decide +kernel)) dL_refuses_104 ?_
      refine lv_icmp_ne (tgt := 266) hx hb dL_refuses_106 (by decide) (fun c9 => absurd f_106 c9) (fun _ => ?_)
      refine lv_aload_n hx hb dL_refuses_109 rfl (lv_at hl 3 rfl) ?_
      refine lv_iconst (v := 4) hx hb dL_refuses_110 (by decide) ?_
      refine lv_iconst (v := 1) hx hb dL_refuses_111 (by decide) ?_
      refine cl_O (Φ := (fun w9 => (s_X11_set_k 4 1 = 0 ∧ OB y h T (s_X11_set_z 4 1 z) (hpu z Hs) s0 s1 w9) ∨ (¬ s_X11_set_k 4 1 = 0 ∧ OB y h T z Hs s0 s1 w9))) (vx_runSX (As := [.ref h, .int 4, .int 1]) (rest := []) ⟨hx, hb, hml, hown, hts⟩ (w_set l G y h 4 1 w T z Hs s0 s1 H.size hO hz  hfl) (vx_cwSW 3 hts gL_refuses_L_trySet rfl rfl rfl (by decide +kernel) ⟨Nat.le_of_ble_eq_true rfl, Nat.le_of_ble_eq_true rfl⟩) (PHZ_S hP hK hN hD hTY hS (F_0 hD hS hA)) rfl rfl hl.1 rfl (lv_room (Nat.le_of_ble_eq_true rfl)) dL_refuses_112 ⟨Nat.le_of_ble_eq_true rfl, Nat.le_of_ble_eq_true rfl⟩) hD hS hA (fun w H locs hO hP hD hS => ?_)
      have hO : OB y h T z Hs s0 s1 w := on k_112 hO
      refine lv_ldc (v := (-999002)) hx hb hown (hts (.constant RL 15 (-999002)) (by decide +kernel)) dL_refuses_115 ?_
      refine lv_icmp_ne (tgt := 266) hx hb dL_refuses_117 (by decide) (fun c9 => absurd f_117 c9) (fun _ => ?_)
      refine lv_aload_n hx hb dL_refuses_120 rfl (lv_at hl 3 rfl) ?_
      refine lv_iconst (v := 5) hx hb dL_refuses_121 (by decide) ?_
      refine lv_sipush (v := 1000) hx hb dL_refuses_122 (by decide) ?_
      refine cl_O (Φ := (fun w9 => (s_X11_set_k 5 1000 = 0 ∧ OB y h T (s_X11_set_z 5 1000 z) (hpu z Hs) s0 s1 w9) ∨ (¬ s_X11_set_k 5 1000 = 0 ∧ OB y h T z Hs s0 s1 w9))) (vx_runSX (As := [.ref h, .int 5, .int 1000]) (rest := []) ⟨hx, hb, hml, hown, hts⟩ (w_set l G y h 5 1000 w T z Hs s0 s1 H.size hO hz  hfl) (vx_cwSW 3 hts gL_refuses_L_trySet rfl rfl rfl (by decide +kernel) ⟨Nat.le_of_ble_eq_true rfl, Nat.le_of_ble_eq_true rfl⟩) (PHZ_S hP hK hN hD hTY hS (F_0 hD hS hA)) rfl rfl hl.1 rfl (lv_room (Nat.le_of_ble_eq_true rfl)) dL_refuses_125 ⟨Nat.le_of_ble_eq_true rfl, Nat.le_of_ble_eq_true rfl⟩) hD hS hA (fun w H locs hO hP hD hS => ?_)
      have hO : OB y h T z Hs s0 s1 w := on k_125 hO
      refine lv_ldc (v := (-999002)) hx hb hown (hts (.constant RL 15 (-999002)) (by decide +kernel)) dL_refuses_128 ?_
      refine lv_icmp_ne (tgt := 266) hx hb dL_refuses_130 (by decide) (fun c9 => absurd f_130 c9) (fun _ => ?_)
      refine lv_aload_n hx hb dL_refuses_133 rfl (lv_at hl 3 rfl) ?_
      refine lv_bipush (v := 6) hx hb dL_refuses_134 (by decide) ?_
      refine lv_bipush (v := 21) hx hb dL_refuses_136 (by decide) ?_
      refine cl_O (Φ := (fun w9 => (s_X11_set_k 6 21 = 0 ∧ OB y h T (s_X11_set_z 6 21 z) (hpu z Hs) s0 s1 w9) ∨ (¬ s_X11_set_k 6 21 = 0 ∧ OB y h T z Hs s0 s1 w9))) (vx_runSX (As := [.ref h, .int 6, .int 21]) (rest := []) ⟨hx, hb, hml, hown, hts⟩ (w_set l G y h 6 21 w T z Hs s0 s1 H.size hO hz  hfl) (vx_cwSW 3 hts gL_refuses_L_trySet rfl rfl rfl (by decide +kernel) ⟨Nat.le_of_ble_eq_true rfl, Nat.le_of_ble_eq_true rfl⟩) (PHZ_S hP hK hN hD hTY hS (F_0 hD hS hA)) rfl rfl hl.1 rfl (lv_room (Nat.le_of_ble_eq_true rfl)) dL_refuses_138 ⟨Nat.le_of_ble_eq_true rfl, Nat.le_of_ble_eq_true rfl⟩) hD hS hA (fun w H locs hO hP hD hS => ?_)
      have hO : OB y h T z Hs s0 s1 w := on k_138 hO
      refine lv_ldc (v := (-999002)) hx hb hown (hts (.constant RL 15 (-999002)) (by decide +kernel)) dL_refuses_141 ?_
      refine lv_icmp_ne (tgt := 266) hx hb dL_refuses_143 (by decide) (fun c9 => absurd f_143 c9) (fun _ => ?_)
      refine lv_aload_n hx hb dL_refuses_146 rfl (lv_at hl 3 rfl) ?_
      refine lv_bipush (v := 7) hx hb dL_refuses_147 (by decide) ?_
      refine lv_bipush (v := 100) hx hb dL_refuses_149 (by decide) ?_
      refine cl_O (Φ := (fun w9 => (s_X11_set_k 7 100 = 0 ∧ OB y h T (s_X11_set_z 7 100 z) (hpu z Hs) s0 s1 w9) ∨ (¬ s_X11_set_k 7 100 = 0 ∧ OB y h T z Hs s0 s1 w9))) (vx_runSX (As := [.ref h, .int 7, .int 100]) (rest := []) ⟨hx, hb, hml, hown, hts⟩ (w_set l G y h 7 100 w T z Hs s0 s1 H.size hO hz  hfl) (vx_cwSW 3 hts gL_refuses_L_trySet rfl rfl rfl (by decide +kernel) ⟨Nat.le_of_ble_eq_true rfl, Nat.le_of_ble_eq_true rfl⟩) (PHZ_S hP hK hN hD hTY hS (F_0 hD hS hA)) rfl rfl hl.1 rfl (lv_room (Nat.le_of_ble_eq_true rfl)) dL_refuses_151 ⟨Nat.le_of_ble_eq_true rfl, Nat.le_of_ble_eq_true rfl⟩) hD hS hA (fun w H locs hO hP hD hS => ?_)
      have hO : OB y h T z Hs s0 s1 w := on k_151 hO
      refine lv_ldc (v := (-999002)) hx hb hown (hts (.constant RL 15 (-999002)) (by decide +kernel)) dL_refuses_154 ?_
      refine lv_icmp_ne (tgt := 266) hx hb dL_refuses_156 (by decide) (fun c9 => absurd f_156 c9) (fun _ => ?_)
      refine lv_aload_n hx hb dL_refuses_159 rfl (lv_at hl 3 rfl) ?_
      refine lv_bipush (v := 8) hx hb dL_refuses_160 (by decide) ?_
      refine lv_sipush (v := 10000) hx hb dL_refuses_162 (by decide) ?_
      refine cl_O (Φ := (fun w9 => (s_X11_set_k 8 10000 = 0 ∧ OB y h T (s_X11_set_z 8 10000 z) (hpu z Hs) s0 s1 w9) ∨ (¬ s_X11_set_k 8 10000 = 0 ∧ OB y h T z Hs s0 s1 w9))) (vx_runSX (As := [.ref h, .int 8, .int 10000]) (rest := []) ⟨hx, hb, hml, hown, hts⟩ (w_set l G y h 8 10000 w T z Hs s0 s1 H.size hO hz  hfl) (vx_cwSW 3 hts gL_refuses_L_trySet rfl rfl rfl (by decide +kernel) ⟨Nat.le_of_ble_eq_true rfl, Nat.le_of_ble_eq_true rfl⟩) (PHZ_S hP hK hN hD hTY hS (F_0 hD hS hA)) rfl rfl hl.1 rfl (lv_room (Nat.le_of_ble_eq_true rfl)) dL_refuses_165 ⟨Nat.le_of_ble_eq_true rfl, Nat.le_of_ble_eq_true rfl⟩) hD hS hA (fun w H locs hO hP hD hS => ?_)
      have hO : OB y h T z Hs s0 s1 w := on k_165 hO
      refine lv_ldc (v := (-999002)) hx hb hown (hts (.constant RL 15 (-999002)) (by decide +kernel)) dL_refuses_168 ?_
      refine lv_icmp_ne (tgt := 266) hx hb dL_refuses_170 (by decide) (fun c9 => absurd f_170 c9) (fun _ => ?_)
      refine lv_aload_n hx hb dL_refuses_173 rfl (lv_at hl 3 rfl) ?_
      refine lv_bipush (v := 11) hx hb dL_refuses_174 (by decide) ?_
      refine lv_iconst (v := 0) hx hb dL_refuses_176 (by decide) ?_
      refine cl_O (Φ := (fun w9 => (s_X11_set_k 11 0 = 0 ∧ OB y h T (s_X11_set_z 11 0 z) (hpu z Hs) s0 s1 w9) ∨ (¬ s_X11_set_k 11 0 = 0 ∧ OB y h T z Hs s0 s1 w9))) (vx_runSX (As := [.ref h, .int 11, .int 0]) (rest := []) ⟨hx, hb, hml, hown, hts⟩ (w_set l G y h 11 0 w T z Hs s0 s1 H.size hO hz  hfl) (vx_cwSW 3 hts gL_refuses_L_trySet rfl rfl rfl (by decide +kernel) ⟨Nat.le_of_ble_eq_true rfl, Nat.le_of_ble_eq_true rfl⟩) (PHZ_S hP hK hN hD hTY hS (F_0 hD hS hA)) rfl rfl hl.1 rfl (lv_room (Nat.le_of_ble_eq_true rfl)) dL_refuses_177 ⟨Nat.le_of_ble_eq_true rfl, Nat.le_of_ble_eq_true rfl⟩) hD hS hA (fun w H locs hO hP hD hS => ?_)
      have hO : OB y h T z Hs s0 s1 w := on k_177 hO
      refine lv_ldc (v := (-999002)) hx hb hown (hts (.constant RL 15 (-999002)) (by decide +kernel)) dL_refuses_180 ?_
      refine lv_icmp_ne (tgt := 266) hx hb dL_refuses_182 (by decide) (fun c9 => absurd f_182 c9) (fun _ => ?_)
      refine lv_aload_n hx hb dL_refuses_185 rfl (lv_at hl 3 rfl) ?_
      refine lv_sipush (v := 501) hx hb dL_refuses_186 (by decide) ?_
      refine cl_O (Φ := (fun w9 => (s_X11_disturb_k 501 = 0 ∧ OB y h T (s_X11_disturb_z 501 z) (hpu z Hs) s0 s1 w9) ∨ (¬ s_X11_disturb_k 501 = 0 ∧ OB y h T z Hs s0 s1 w9))) (vx_runSX (As := [.ref h, .int 501]) (rest := []) ⟨hx, hb, hml, hown, hts⟩ (w_disturb l G y h 501 w T z Hs s0 s1 H.size hO hz  hfl) (vx_cwSW 2 hts gL_refuses_L_tryDisturb rfl rfl rfl (by decide +kernel) ⟨Nat.le_of_ble_eq_true rfl, Nat.le_of_ble_eq_true rfl⟩) (PHZ_S hP hK hN hD hTY hS (F_0 hD hS hA)) rfl rfl hl.1 rfl (lv_room (Nat.le_of_ble_eq_true rfl)) dL_refuses_189 ⟨Nat.le_of_ble_eq_true rfl, Nat.le_of_ble_eq_true rfl⟩) hD hS hA (fun w H locs hO hP hD hS => ?_)
      have hO : OB y h T z Hs s0 s1 w := on k_189 hO
      refine lv_ldc (v := (-999002)) hx hb hown (hts (.constant RL 15 (-999002)) (by decide +kernel)) dL_refuses_192 ?_
      refine lv_icmp_ne (tgt := 266) hx hb dL_refuses_194 (by decide) (fun c9 => absurd f_194 c9) (fun _ => ?_)
      refine lv_aload_n hx hb dL_refuses_197 rfl (lv_at hl 3 rfl) ?_
      refine lv_sipush (v := (-501)) hx hb dL_refuses_198 (by decide) ?_
      refine cl_O (Φ := (fun w9 => (s_X11_disturb_k (-501) = 0 ∧ OB y h T (s_X11_disturb_z (-501) z) (hpu z Hs) s0 s1 w9) ∨ (¬ s_X11_disturb_k (-501) = 0 ∧ OB y h T z Hs s0 s1 w9))) (vx_runSX (As := [.ref h, .int (-501)]) (rest := []) ⟨hx, hb, hml, hown, hts⟩ (w_disturb l G y h (-501) w T z Hs s0 s1 H.size hO hz  hfl) (vx_cwSW 2 hts gL_refuses_L_tryDisturb rfl rfl rfl (by decide +kernel) ⟨Nat.le_of_ble_eq_true rfl, Nat.le_of_ble_eq_true rfl⟩) (PHZ_S hP hK hN hD hTY hS (F_0 hD hS hA)) rfl rfl hl.1 rfl (lv_room (Nat.le_of_ble_eq_true rfl)) dL_refuses_201 ⟨Nat.le_of_ble_eq_true rfl, Nat.le_of_ble_eq_true rfl⟩) hD hS hA (fun w H locs hO hP hD hS => ?_)
      have hO : OB y h T z Hs s0 s1 w := on k_201 hO
      refine lv_ldc (v := (-999002)) hx hb hown (hts (.constant RL 15 (-999002)) (by decide +kernel)) dL_refuses_204 ?_
      refine lv_icmp_ne (tgt := 266) hx hb dL_refuses_206 (by decide) (fun c9 => absurd f_206 c9) (fun _ => ?_)
      refine lv_aload_n hx hb dL_refuses_209 rfl (lv_at hl 3 rfl) ?_
      refine lv_iload_n hx hb dL_refuses_210 rfl (lv_at hl 2 rfl) ?_
      refine cl_O (Φ := (fun w9 => (s_X11_discard_k (qAbout 16 z) z = 0 ∧ OB y h T (s_X11_discard_z (qAbout 16 z) z) (hpu z Hs) s0 s1 w9) ∨ (¬ s_X11_discard_k (qAbout 16 z) z = 0 ∧ OB y h T z Hs s0 s1 w9))) (vx_runSX (As := [.ref h, .int (qAbout 16 z)]) (rest := []) ⟨hx, hb, hml, hown, hts⟩ (w_discard l G y h (qAbout 16 z) w T z Hs s0 s1 H.size hO hz  hfl) (vx_cwSW 2 hts gL_refuses_L_tryDiscard rfl rfl rfl (by decide +kernel) ⟨Nat.le_of_ble_eq_true rfl, Nat.le_of_ble_eq_true rfl⟩) (PHZ_S hP hK hN hD hTY hS (F_0 hD hS hA)) rfl rfl hl.1 rfl (lv_room (Nat.le_of_ble_eq_true rfl)) dL_refuses_211 ⟨Nat.le_of_ble_eq_true rfl, Nat.le_of_ble_eq_true rfl⟩) hD hS hA (fun w H locs hO hP hD hS => ?_)
      have hO : OB y h T z Hs s0 s1 w := on k_211 hO
      refine lv_ldc (v := (-999001)) hx hb hown (hts (.constant RL 32 (-999001)) (by decide +kernel)) dL_refuses_214 ?_
      refine lv_icmp_ne (tgt := 266) hx hb dL_refuses_216 (by decide) (fun c9 => absurd f_216 c9) (fun _ => ?_)
      refine lv_aload_n hx hb dL_refuses_219 rfl (lv_at hl 3 rfl) ?_
      refine lv_iconst (v := 4) hx hb dL_refuses_220 (by decide) ?_
      refine cl_O (Φ := (fun w9 => (s_X11_tryRule_k 4 z = 0 ∧ OB y h T (s_X11_tryRule_z 4 z) (hpu z Hs) s0 s1 w9) ∨ (¬ s_X11_tryRule_k 4 z = 0 ∧ OB y h T z Hs s0 s1 w9))) (vx_runSX (As := [.ref h, .int 4]) (rest := []) ⟨hx, hb, hml, hown, hts⟩ (w_tryRule l G y h 4 w T z Hs s0 s1 H.size hO hz  hfl) (vx_cwSW 2 hts gL_refuses_L_tryRule rfl rfl rfl (by decide +kernel) ⟨Nat.le_of_ble_eq_true rfl, Nat.le_of_ble_eq_true rfl⟩) (PHZ_S hP hK hN hD hTY hS (F_0 hD hS hA)) rfl rfl hl.1 rfl (lv_room (Nat.le_of_ble_eq_true rfl)) dL_refuses_221 ⟨Nat.le_of_ble_eq_true rfl, Nat.le_of_ble_eq_true rfl⟩) hD hS hA (fun w H locs hO hP hD hS => ?_)
      have hO : OB y h T z Hs s0 s1 w := on k_221 hO
      refine lv_ldc (v := (-999001)) hx hb hown (hts (.constant RL 32 (-999001)) (by decide +kernel)) dL_refuses_224 ?_
      refine lv_icmp_ne (tgt := 266) hx hb dL_refuses_226 (by decide) (fun c9 => absurd f_226 c9) (fun _ => ?_)
      refine lv_iload_n hx hb dL_refuses_229 rfl (lv_at hl 1 rfl) ?_
      have J249_23 : ∀  (w : va_W) (hO : OB y h T z Hs s0 s1 w) (H : Heap) (locs : List Loc) (hP : va_P G vwCl w H) (hD : va_D A w) (hS : va_S A s.heap H locs) (ls : Array Slot) (hl : lv_has ls 5 [(3, .int (qAbout 18 z)), (0, .ref h)]), W p l e (headSpec wsL_refuses rmL_refuses).room s m ([.ref h] : List Value).toArray below meth c H locs 21 126 QQ (F0 m 249 ls []) := by
        intro w hO H locs hP hD hS ls hl
        refine lv_iload_n hx hb dL_refuses_249 rfl (lv_at hl 0 rfl) ?_
        have J262_25 : ∀  (w : va_W) (hO : OB y h T z Hs s0 s1 w) (H : Heap) (locs : List Loc) (hP : va_P G vwCl w H) (hD : va_D A w) (hS : va_S A s.heap H locs) (ls : Array Slot) (hl : lv_has ls 5 [(0, .ref h)]), W p l e (headSpec wsL_refuses rmL_refuses).room s m ([.ref h] : List Value).toArray below meth c H locs 22 132 QQ (F0 m 262 ls []) := by
          intro w hO H locs hP hD hS ls hl
          refine lv_iconst (v := 1) hx hb dL_refuses_262 (by decide) ?_
          refine lv_goto (tgt := 267) hx hb dL_refuses_263 (by decide) ?_
          refine lv_istore (lv' := [(4, .int 1), (0, .ref h)]) hx hb dL_refuses_267 hl (by decide) rfl (fun ls hl => ?_)
          refine lv_iload hx hb dL_refuses_269 (lv_at hl 0 rfl) ?_
          refine lv_if_eq (tgt := 470) hx hb dL_refuses_271 (by decide) (fun c_26 => (by first | exact absurd c_26 (by decide : ¬ ((1 : Int32) = 0)) | exact absurd (by decide : ¬ ((1 : Int32) = 0)) c_26)) (fun _ => ?_)
          refine lv_aload_n hx hb dL_refuses_274 rfl (lv_at hl 1 rfl) ?_
          refine lv_iconst (v := 4) hx hb dL_refuses_275 (by decide) ?_
          refine lv_iconst (v := 3) hx hb dL_refuses_276 (by decide) ?_
          refine cl_O (Φ := (fun w9 => OB y h T z Hs s0 s1 w9)) (vx_runSX (As := [.ref h, .int 4, .int 3]) (rest := []) ⟨hx, hb, hml, hown, hts⟩ (w_proposal l G y h 4 3 w T z Hs s0 s1 H.size hO hz  hfl) (vx_cwSW 3 hts gL_refuses_L_tryProposal rfl rfl rfl (by decide +kernel) ⟨Nat.le_of_ble_eq_true rfl, Nat.le_of_ble_eq_true rfl⟩) (PHZ_S hP hK hN hD hTY hS (F_0 hD hS hA)) rfl rfl hl.1 rfl (lv_room (Nat.le_of_ble_eq_true rfl)) dL_refuses_277 ⟨Nat.le_of_ble_eq_true rfl, Nat.le_of_ble_eq_true rfl⟩) hD hS hA (fun w H locs hO hP hD hS => ?_)
          refine lv_ldc (v := (-999001)) hx hb hown (hts (.constant RL 32 (-999001)) (by decide +kernel)) dL_refuses_280 ?_
          refine lv_icmp_ne (tgt := 470) hx hb dL_refuses_282 (by decide) (fun c9 => absurd f_282 c9) (fun _ => ?_)
          refine lv_aload_n hx hb dL_refuses_285 rfl (lv_at hl 1 rfl) ?_
          refine lv_iconst (v := 0) hx hb dL_refuses_286 (by decide) ?_
          refine lv_iconst (v := 3) hx hb dL_refuses_287 (by decide) ?_
          refine cl_O (Φ := (fun w9 => OB y h T z Hs s0 s1 w9)) (vx_runSX (As := [.ref h, .int 0, .int 3]) (rest := []) ⟨hx, hb, hml, hown, hts⟩ (w_proposal l G y h 0 3 w T z Hs s0 s1 H.size hO hz  hfl) (vx_cwSW 3 hts gL_refuses_L_tryProposal rfl rfl rfl (by decide +kernel) ⟨Nat.le_of_ble_eq_true rfl, Nat.le_of_ble_eq_true rfl⟩) (PHZ_S hP hK hN hD hTY hS (F_0 hD hS hA)) rfl rfl hl.1 rfl (lv_room (Nat.le_of_ble_eq_true rfl)) dL_refuses_288 ⟨Nat.le_of_ble_eq_true rfl, Nat.le_of_ble_eq_true rfl⟩) hD hS hA (fun w H locs hO hP hD hS => ?_)
          refine lv_ldc (v := (-999002)) hx hb hown (hts (.constant RL 15 (-999002)) (by decide +kernel)) dL_refuses_291 ?_
          refine lv_icmp_ne (tgt := 470) hx hb dL_refuses_293 (by decide) (fun c9 => absurd f_293 c9) (fun _ => ?_)
          refine lv_aload_n hx hb dL_refuses_296 rfl (lv_at hl 1 rfl) ?_
          refine lv_iconst (v := 0) hx hb dL_refuses_297 (by decide) ?_
          refine cl_O (Φ := (fun w9 => OB y h T z Hs s0 s1 w9)) (vx_runSX (As := [.ref h, .int 0]) (rest := []) ⟨hx, hb, hml, hown, hts⟩ (w_toleranceFor l G y h 0 w T z Hs s0 s1 H.size hO hz  hfl) (vx_cwSW 2 hts gL_refuses_L_tryToleranceFor rfl rfl rfl (by decide +kernel) ⟨Nat.le_of_ble_eq_true rfl, Nat.le_of_ble_eq_true rfl⟩) (PHZ_S hP hK hN hD hTY hS (F_0 hD hS hA)) rfl rfl hl.1 rfl (lv_room (Nat.le_of_ble_eq_true rfl)) dL_refuses_298 ⟨Nat.le_of_ble_eq_true rfl, Nat.le_of_ble_eq_true rfl⟩) hD hS hA (fun w H locs hO hP hD hS => ?_)
          refine lv_ldc (v := (-999002)) hx hb hown (hts (.constant RL 15 (-999002)) (by decide +kernel)) dL_refuses_301 ?_
          refine lv_icmp_ne (tgt := 470) hx hb dL_refuses_303 (by decide) (fun c9 => absurd f_303 c9) (fun _ => ?_)
          refine lv_aload_n hx hb dL_refuses_306 rfl (lv_at hl 1 rfl) ?_
          refine lv_bipush (v := 21) hx hb dL_refuses_307 (by decide) ?_
          refine cl_O (Φ := (fun w9 => OB y h T z Hs s0 s1 w9)) (vx_runSX (As := [.ref h, .int 21]) (rest := []) ⟨hx, hb, hml, hown, hts⟩ (w_toleranceFor l G y h 21 w T z Hs s0 s1 H.size hO hz  hfl) (vx_cwSW 2 hts gL_refuses_L_tryToleranceFor rfl rfl rfl (by decide +kernel) ⟨Nat.le_of_ble_eq_true rfl, Nat.le_of_ble_eq_true rfl⟩) (PHZ_S hP hK hN hD hTY hS (F_0 hD hS hA)) rfl rfl hl.1 rfl (lv_room (Nat.le_of_ble_eq_true rfl)) dL_refuses_309 ⟨Nat.le_of_ble_eq_true rfl, Nat.le_of_ble_eq_true rfl⟩) hD hS hA (fun w H locs hO hP hD hS => ?_)
          refine lv_ldc (v := (-999002)) hx hb hown (hts (.constant RL 15 (-999002)) (by decide +kernel)) dL_refuses_312 ?_
          refine lv_icmp_ne (tgt := 470) hx hb dL_refuses_314 (by decide) (fun c9 => absurd f_314 c9) (fun _ => ?_)
          refine lv_aload_n hx hb dL_refuses_317 rfl (lv_at hl 1 rfl) ?_
          refine lv_sipush (v := 201) hx hb dL_refuses_318 (by decide) ?_
          refine lv_iconst (v := 0) hx hb dL_refuses_321 (by decide) ?_
          refine cl_O (Φ := (fun w9 => OB y h T z Hs s0 s1 w9)) (vx_runSX (As := [.ref h, .int 201, .int 0]) (rest := []) ⟨hx, hb, hml, hown, hts⟩ (w_ahead l G y h 201 0 w T z Hs s0 s1 H.size hO hz  hfl) (vx_cwSW 3 hts gL_refuses_L_tryAhead rfl rfl rfl (by decide +kernel) ⟨Nat.le_of_ble_eq_true rfl, Nat.le_of_ble_eq_true rfl⟩) (PHZ_S hP hK hN hD hTY hS (F_0 hD hS hA)) rfl rfl hl.1 rfl (lv_room (Nat.le_of_ble_eq_true rfl)) dL_refuses_322 ⟨Nat.le_of_ble_eq_true rfl, Nat.le_of_ble_eq_true rfl⟩) hD hS hA (fun w H locs hO hP hD hS => ?_)
          refine lv_ldc (v := (-999002)) hx hb hown (hts (.constant RL 15 (-999002)) (by decide +kernel)) dL_refuses_325 ?_
          refine lv_icmp_ne (tgt := 470) hx hb dL_refuses_327 (by decide) (fun c9 => absurd f_327 c9) (fun _ => ?_)
          refine lv_aload_n hx hb dL_refuses_330 rfl (lv_at hl 1 rfl) ?_
          refine lv_iconst (v := 0) hx hb dL_refuses_331 (by decide) ?_
          refine lv_iconst (v := 5) hx hb dL_refuses_332 (by decide) ?_
          refine cl_O (Φ := (fun w9 => OB y h T z Hs s0 s1 w9)) (vx_runSX (As := [.ref h, .int 0, .int 5]) (rest := []) ⟨hx, hb, hml, hown, hts⟩ (w_ahead l G y h 0 5 w T z Hs s0 s1 H.size hO hz  hfl) (vx_cwSW 3 hts gL_refuses_L_tryAhead rfl rfl rfl (by decide +kernel) ⟨Nat.le_of_ble_eq_true rfl, Nat.le_of_ble_eq_true rfl⟩) (PHZ_S hP hK hN hD hTY hS (F_0 hD hS hA)) rfl rfl hl.1 rfl (lv_room (Nat.le_of_ble_eq_true rfl)) dL_refuses_333 ⟨Nat.le_of_ble_eq_true rfl, Nat.le_of_ble_eq_true rfl⟩) hD hS hA (fun w H locs hO hP hD hS => ?_)
          refine lv_ldc (v := (-999002)) hx hb hown (hts (.constant RL 15 (-999002)) (by decide +kernel)) dL_refuses_336 ?_
          refine lv_icmp_ne (tgt := 470) hx hb dL_refuses_338 (by decide) (fun c9 => absurd f_338 c9) (fun _ => ?_)
          refine lv_aload_n hx hb dL_refuses_341 rfl (lv_at hl 1 rfl) ?_
          refine lv_iconst (v := (-1)) hx hb dL_refuses_342 (by decide) ?_
          refine lv_iconst (v := 0) hx hb dL_refuses_343 (by decide) ?_
          refine lv_iconst (v := 5) hx hb dL_refuses_344 (by decide) ?_
          refine cl_O (Φ := (fun w9 => OB y h T z Hs s0 s1 w9)) (vx_runSX (As := [.ref h, .int (-1), .int 0, .int 5]) (rest := []) ⟨hx, hb, hml, hown, hts⟩ (w_outcome l G y h (-1) 0 5 w T z Hs s0 s1 H.size hO hz  hfl) (vx_cwSW 4 hts gL_refuses_L_tryOutcome rfl rfl rfl (by decide +kernel) ⟨Nat.le_of_ble_eq_true rfl, Nat.le_of_ble_eq_true rfl⟩) (PHZ_S hP hK hN hD hTY hS (F_0 hD hS hA)) rfl rfl hl.1 rfl (lv_room (Nat.le_of_ble_eq_true rfl)) dL_refuses_345 ⟨Nat.le_of_ble_eq_true rfl, Nat.le_of_ble_eq_true rfl⟩) hD hS hA (fun w H locs hO hP hD hS => ?_)
          refine lv_ldc (v := (-999001)) hx hb hown (hts (.constant RL 32 (-999001)) (by decide +kernel)) dL_refuses_348 ?_
          refine lv_icmp_ne (tgt := 470) hx hb dL_refuses_350 (by decide) (fun c9 => absurd f_350 c9) (fun _ => ?_)
          refine lv_aload_n hx hb dL_refuses_353 rfl (lv_at hl 1 rfl) ?_
          refine lv_iconst (v := 0) hx hb dL_refuses_354 (by decide) ?_
          refine lv_iconst (v := 0) hx hb dL_refuses_355 (by decide) ?_
          refine lv_iconst (v := 0) hx hb dL_refuses_356 (by decide) ?_
          refine cl_O (Φ := (fun w9 => OB y h T z Hs s0 s1 w9)) (vx_runSX (As := [.ref h, .int 0, .int 0, .int 0]) (rest := []) ⟨hx, hb, hml, hown, hts⟩ (w_outcome l G y h 0 0 0 w T z Hs s0 s1 H.size hO hz  hfl) (vx_cwSW 4 hts gL_refuses_L_tryOutcome rfl rfl rfl (by decide +kernel) ⟨Nat.le_of_ble_eq_true rfl, Nat.le_of_ble_eq_true rfl⟩) (PHZ_S hP hK hN hD hTY hS (F_0 hD hS hA)) rfl rfl hl.1 rfl (lv_room (Nat.le_of_ble_eq_true rfl)) dL_refuses_357 ⟨Nat.le_of_ble_eq_true rfl, Nat.le_of_ble_eq_true rfl⟩) hD hS hA (fun w H locs hO hP hD hS => ?_)
          refine lv_ldc (v := (-999002)) hx hb hown (hts (.constant RL 15 (-999002)) (by decide +kernel)) dL_refuses_360 ?_
          refine lv_icmp_ne (tgt := 470) hx hb dL_refuses_362 (by decide) (fun c9 => absurd f_362 c9) (fun _ => ?_)
          refine lv_aload_n hx hb dL_refuses_365 rfl (lv_at hl 1 rfl) ?_
          refine lv_iconst (v := 0) hx hb dL_refuses_366 (by decide) ?_
          refine lv_iconst (v := 1) hx hb dL_refuses_367 (by decide) ?_
          refine lv_iconst (v := 5) hx hb dL_refuses_368 (by decide) ?_
          refine cl_O (Φ := (fun w9 => OB y h T z Hs s0 s1 w9)) (vx_runSX (As := [.ref h, .int 0, .int 1, .int 5]) (rest := []) ⟨hx, hb, hml, hown, hts⟩ (w_outcome l G y h 0 1 5 w T z Hs s0 s1 H.size hO hz  hfl) (vx_cwSW 4 hts gL_refuses_L_tryOutcome rfl rfl rfl (by decide +kernel) ⟨Nat.le_of_ble_eq_true rfl, Nat.le_of_ble_eq_true rfl⟩) (PHZ_S hP hK hN hD hTY hS (F_0 hD hS hA)) rfl rfl hl.1 rfl (lv_room (Nat.le_of_ble_eq_true rfl)) dL_refuses_369 ⟨Nat.le_of_ble_eq_true rfl, Nat.le_of_ble_eq_true rfl⟩) hD hS hA (fun w H locs hO hP hD hS => ?_)
          refine lv_ldc (v := (-999002)) hx hb hown (hts (.constant RL 15 (-999002)) (by decide +kernel)) dL_refuses_372 ?_
          refine lv_icmp_ne (tgt := 470) hx hb dL_refuses_374 (by decide) (fun c9 => absurd f_374 c9) (fun _ => ?_)
          refine lv_aload_n hx hb dL_refuses_377 rfl (lv_at hl 1 rfl) ?_
          refine lv_iconst (v := 0) hx hb dL_refuses_378 (by decide) ?_
          refine cl_O (Φ := (fun w9 => OB y h T z Hs s0 s1 w9)) (vx_runSX (As := [.ref h, .int 0]) (rest := []) ⟨hx, hb, hml, hown, hts⟩ (w_bestRule l G y h 0 w T z Hs s0 s1 H.size hO hz  hfl) (vx_cwSW 2 hts gL_refuses_L_tryBestRule rfl rfl rfl (by decide +kernel) ⟨Nat.le_of_ble_eq_true rfl, Nat.le_of_ble_eq_true rfl⟩) (PHZ_S hP hK hN hD hTY hS (F_0 hD hS hA)) rfl rfl hl.1 rfl (lv_room (Nat.le_of_ble_eq_true rfl)) dL_refuses_379 ⟨Nat.le_of_ble_eq_true rfl, Nat.le_of_ble_eq_true rfl⟩) hD hS hA (fun w H locs hO hP hD hS => ?_)
          refine lv_ldc (v := (-999002)) hx hb hown (hts (.constant RL 15 (-999002)) (by decide +kernel)) dL_refuses_382 ?_
          refine lv_icmp_ne (tgt := 470) hx hb dL_refuses_384 (by decide) (fun c9 => absurd f_384 c9) (fun _ => ?_)
          refine lv_aload_n hx hb dL_refuses_387 rfl (lv_at hl 1 rfl) ?_
          refine lv_bipush (v := 100) hx hb dL_refuses_388 (by decide) ?_
          refine cl_O (Φ := (fun w9 => OB y h T z Hs s0 s1 w9)) (vx_runSX (As := [.ref h, .int 100]) (rest := []) ⟨hx, hb, hml, hown, hts⟩ (w_settlesAfter l G y h 100 w T z Hs s0 s1 H.size hO hz  hfl) (vx_cwSW 2 hts gL_refuses_L_trySettlesAfter rfl rfl rfl (by decide +kernel) ⟨Nat.le_of_ble_eq_true rfl, Nat.le_of_ble_eq_true rfl⟩) (PHZ_S hP hK hN hD hTY hS (F_0 hD hS hA)) rfl rfl hl.1 rfl (lv_room (Nat.le_of_ble_eq_true rfl)) dL_refuses_390 ⟨Nat.le_of_ble_eq_true rfl, Nat.le_of_ble_eq_true rfl⟩) hD hS hA (fun w H locs hO hP hD hS => ?_)
          refine lv_ldc (v := (-999002)) hx hb hown (hts (.constant RL 15 (-999002)) (by decide +kernel)) dL_refuses_393 ?_
          refine lv_icmp_ne (tgt := 470) hx hb dL_refuses_395 (by decide) (fun c9 => absurd f_395 c9) (fun _ => ?_)
          refine lv_aload_n hx hb dL_refuses_398 rfl (lv_at hl 1 rfl) ?_
          refine lv_iconst (v := 4) hx hb dL_refuses_399 (by decide) ?_
          refine lv_lconst (v := 0) hx hb dL_refuses_400 rfl ?_
          refine cl_O (Φ := (fun w9 => OB y h T z Hs s0 s1 w9)) (vx_runSX (As := [.ref h, .int 4, .long 0]) (rest := []) ⟨hx, hb, hml, hown, hts⟩ (w_runScript l G y h 4 0 w T z Hs s0 s1 H.size hO hz  hfl) (vx_cwSW 3 hts gL_refuses_L_tryScript rfl rfl rfl (by decide +kernel) ⟨Nat.le_of_ble_eq_true rfl, Nat.le_of_ble_eq_true rfl⟩) (PHZ_S hP hK hN hD hTY hS (F_0 hD hS hA)) rfl rfl hl.1 rfl (lv_room (Nat.le_of_ble_eq_true rfl)) dL_refuses_401 ⟨Nat.le_of_ble_eq_true rfl, Nat.le_of_ble_eq_true rfl⟩) hD hS hA (fun w H locs hO hP hD hS => ?_)
          refine lv_ldc (v := (-999002)) hx hb hown (hts (.constant RL 15 (-999002)) (by decide +kernel)) dL_refuses_404 ?_
          refine lv_icmp_ne (tgt := 470) hx hb dL_refuses_406 (by decide) (fun c9 => absurd f_406 c9) (fun _ => ?_)
          refine lv_aload_n hx hb dL_refuses_409 rfl (lv_at hl 1 rfl) ?_
          refine lv_iconst (v := 1) hx hb dL_refuses_410 (by decide) ?_
          refine lv_ldc2 (v := 100000) hx hb hown (hts (.constantLong RL 190 100000) (by decide +kernel)) dL_refuses_411 ?_
          refine cl_O (Φ := (fun w9 => OB y h T z Hs s0 s1 w9)) (vx_runSX (As := [.ref h, .int 1, .long 100000]) (rest := []) ⟨hx, hb, hml, hown, hts⟩ (w_runScript l G y h 1 100000 w T z Hs s0 s1 H.size hO hz  hfl) (vx_cwSW 3 hts gL_refuses_L_tryScript rfl rfl rfl (by decide +kernel) ⟨Nat.le_of_ble_eq_true rfl, Nat.le_of_ble_eq_true rfl⟩) (PHZ_S hP hK hN hD hTY hS (F_0 hD hS hA)) rfl rfl hl.1 rfl (lv_room (Nat.le_of_ble_eq_true rfl)) dL_refuses_414 ⟨Nat.le_of_ble_eq_true rfl, Nat.le_of_ble_eq_true rfl⟩) hD hS hA (fun w H locs hO hP hD hS => ?_)
          refine lv_ldc (v := (-999002)) hx hb hown (hts (.constant RL 15 (-999002)) (by decide +kernel)) dL_refuses_417 ?_
          refine lv_icmp_ne (tgt := 470) hx hb dL_refuses_419 (by decide) (fun c9 => absurd f_419 c9) (fun _ => ?_)
          refine lv_aload_n hx hb dL_refuses_422 rfl (lv_at hl 1 rfl) ?_
          refine lv_lconst (v := 1) hx hb dL_refuses_423 rfl ?_
          refine lv_bipush (v := 61) hx hb dL_refuses_424 (by decide) ?_
          refine cl_O (Φ := (fun w9 => OB y h T z Hs s0 s1 w9)) (vx_runSX (As := [.ref h, .long 1, .int 61]) (rest := []) ⟨hx, hb, hml, hown, hts⟩ (w_simulate l G y h 1 61 w T z Hs s0 s1 H.size hO hz  hfl) (vx_cwSW 3 hts gL_refuses_L_trySimulate rfl rfl rfl (by decide +kernel) ⟨Nat.le_of_ble_eq_true rfl, Nat.le_of_ble_eq_true rfl⟩) (PHZ_S hP hK hN hD hTY hS (F_0 hD hS hA)) rfl rfl hl.1 rfl (lv_room (Nat.le_of_ble_eq_true rfl)) dL_refuses_426 ⟨Nat.le_of_ble_eq_true rfl, Nat.le_of_ble_eq_true rfl⟩) hD hS hA (fun w H locs hO hP hD hS => ?_)
          refine lv_ldc (v := (-999002)) hx hb hown (hts (.constant RL 15 (-999002)) (by decide +kernel)) dL_refuses_429 ?_
          refine lv_icmp_ne (tgt := 470) hx hb dL_refuses_431 (by decide) (fun c9 => absurd f_431 c9) (fun _ => ?_)
          refine lv_aload_n hx hb dL_refuses_434 rfl (lv_at hl 1 rfl) ?_
          refine lv_iconst (v := 2) hx hb dL_refuses_435 (by decide) ?_
          refine cl_O (Φ := (fun w9 => (s_X11_save_k 2 = 0 ∧ OB y h T z Hs (if 2 = 0 then some z else s0) (if 2 = 0 then s1 else some z) w9) ∨ (¬ s_X11_save_k 2 = 0 ∧ OB y h T z Hs s0 s1 w9))) (vx_runSX (As := [.ref h, .int 2]) (rest := []) ⟨hx, hb, hml, hown, hts⟩ (w_save l G y h 2 w T z Hs s0 s1 H.size hO hz  hfl) (vx_cwSW 2 hts gL_refuses_L_trySave rfl rfl rfl (by decide +kernel) ⟨Nat.le_of_ble_eq_true rfl, Nat.le_of_ble_eq_true rfl⟩) (PHZ_S hP hK hN hD hTY hS (F_0 hD hS hA)) rfl rfl hl.1 rfl (lv_room (Nat.le_of_ble_eq_true rfl)) dL_refuses_436 ⟨Nat.le_of_ble_eq_true rfl, Nat.le_of_ble_eq_true rfl⟩) hD hS hA (fun w H locs hO hP hD hS => ?_)
          have hO : OB y h T z Hs s0 s1 w := on k_436 hO
          refine lv_ldc (v := (-999001)) hx hb hown (hts (.constant RL 32 (-999001)) (by decide +kernel)) dL_refuses_439 ?_
          refine lv_icmp_ne (tgt := 470) hx hb dL_refuses_441 (by decide) (fun c9 => absurd f_441 c9) (fun _ => ?_)
          refine lv_aload_n hx hb dL_refuses_444 rfl (lv_at hl 1 rfl) ?_
          refine lv_iconst (v := (-1)) hx hb dL_refuses_445 (by decide) ?_
          refine cl_O (Φ := (fun w9 => (kRes (-1) s0 s1 = 0 ∧ OB y h T ((sl (-1) s0 s1).getD zI) [] s0 s1 w9) ∨ (¬ kRes (-1) s0 s1 = 0 ∧ OB y h T z Hs s0 s1 w9))) (vx_runSX (As := [.ref h, .int (-1)]) (rest := []) ⟨hx, hb, hml, hown, hts⟩ (w_restore l G y h (-1) w T z Hs s0 s1 H.size hO hz  hfl) (vx_cwSW 2 hts gL_refuses_L_tryRestore rfl rfl rfl (by decide +kernel) ⟨Nat.le_of_ble_eq_true rfl, Nat.le_of_ble_eq_true rfl⟩) (PHZ_S hP hK hN hD hTY hS (F_0 hD hS hA)) rfl rfl hl.1 rfl (lv_room (Nat.le_of_ble_eq_true rfl)) dL_refuses_446 ⟨Nat.le_of_ble_eq_true rfl, Nat.le_of_ble_eq_true rfl⟩) hD hS hA (fun w H locs hO hP hD hS => ?_)
          have hO : OB y h T z Hs s0 s1 w := on k_446 hO
          refine lv_ldc (v := (-999001)) hx hb hown (hts (.constant RL 32 (-999001)) (by decide +kernel)) dL_refuses_449 ?_
          refine lv_icmp_ne (tgt := 470) hx hb dL_refuses_451 (by decide) (fun c9 => absurd f_451 c9) (fun _ => ?_)
          refine lv_aload_n hx hb dL_refuses_454 rfl (lv_at hl 1 rfl) ?_
          refine lv_sipush (v := 256) hx hb dL_refuses_455 (by decide) ?_
          refine cl_O (Φ := (fun w9 => (kApp 256 T = 0 ∧ OB y h (T ++ [256]) z Hs s0 s1 w9) ∨ (¬ kApp 256 T = 0 ∧ OB y h T z Hs s0 s1 w9))) (vx_runSX (As := [.ref h, .int 256]) (rest := []) ⟨hx, hb, hml, hown, hts⟩ (w_append l G y h 256 w T z Hs s0 s1 H.size hO hz  hfl) (vx_cwSW 2 hts gL_refuses_L_tryAppend rfl rfl rfl (by decide +kernel) ⟨Nat.le_of_ble_eq_true rfl, Nat.le_of_ble_eq_true rfl⟩) (PHZ_S hP hK hN hD hTY hS (F_0 hD hS hA)) rfl rfl hl.1 rfl (lv_room (Nat.le_of_ble_eq_true rfl)) dL_refuses_458 ⟨Nat.le_of_ble_eq_true rfl, Nat.le_of_ble_eq_true rfl⟩) hD hS hA (fun w H locs hO hP hD hS => ?_)
          have hO : OB y h T z Hs s0 s1 w := on k_458 hO
          refine lv_ldc (v := (-999002)) hx hb hown (hts (.constant RL 15 (-999002)) (by decide +kernel)) dL_refuses_461 ?_
          refine lv_icmp_ne (tgt := 470) hx hb dL_refuses_463 (by decide) (fun c9 => absurd f_463 c9) (fun _ => ?_)
          refine lv_iconst (v := 1) hx hb dL_refuses_466 (by decide) ?_
          refine lv_goto (tgt := 471) hx hb dL_refuses_467 (by decide) ?_
          rw [hQQ]
          refine W.widen (k := 39) (n := 234) (by omega) (by omega) ?_
          exact W.zret hx hb hr (nz_bool (Or.inr rfl)) (end_O hO hP hD hS rfl) hS.2.2 dL_refuses_471
        refine lv_if_gt (tgt := 262) hx hb dL_refuses_250 (by decide) (fun c_24 => ?_) (fun c_24 => ?_)
        · refine W.widen (k := 22) (n := 132) (by omega) (by omega) ?_
          exact J262_25 w hO H locs hP hD hS ls (lv_sub hl [1] rfl)
        · refine lv_aload_n hx hb dL_refuses_253 rfl (lv_at hl 1 rfl) ?_
          refine cl_O (Φ := (fun w9 => (s_X11_takeBack_k z = 0 ∧ OB y h T (s_X11_takeBack_z z) (hpu z Hs) s0 s1 w9) ∨ (¬ s_X11_takeBack_k z = 0 ∧ OB y h T z Hs s0 s1 w9))) (vx_runSX (As := [.ref h]) (rest := []) ⟨hx, hb, hml, hown, hts⟩ (w_takeBack l G y h w T z Hs s0 s1 H.size hO hz  hfl) (vx_cwSW 1 hts gL_refuses_L_tryTakeBack rfl rfl rfl (by decide +kernel) ⟨Nat.le_of_ble_eq_true rfl, Nat.le_of_ble_eq_true rfl⟩) (PHZ_S hP hK hN hD hTY hS (F_0 hD hS hA)) rfl rfl hl.1 rfl (lv_room (Nat.le_of_ble_eq_true rfl)) dL_refuses_254 ⟨Nat.le_of_ble_eq_true rfl, Nat.le_of_ble_eq_true rfl⟩) hD hS hA (fun w H locs hO hP hD hS => ?_)
          have hO : OB y h T z Hs s0 s1 w := on (k_254 c_24) hO
          refine lv_ldc (v := (-999003)) hx hb hown (hts (.constant RL 18 (-999003)) (by decide +kernel)) dL_refuses_257 ?_
          refine lv_icmp_ne (tgt := 266) hx hb dL_refuses_259 (by decide) (fun c9 => absurd (f_259 c_24) c9) (fun _ => ?_)
          exact J262_25 w hO H locs hP hD hS ls (lv_sub hl [1] rfl)
      refine lv_if_ne (tgt := 239) hx hb dL_refuses_230 (by decide) (fun c_22 => ?_) (fun c_22 => ?_)
      · refine lv_aload_n hx hb dL_refuses_239 rfl (lv_at hl 3 rfl) ?_
        refine lv_iconst (v := 0) hx hb dL_refuses_240 (by decide) ?_
        refine cl_O (Φ := (fun w9 => (s_X11_tryRule_k 0 z = 0 ∧ OB y h T (s_X11_tryRule_z 0 z) (hpu z Hs) s0 s1 w9) ∨ (¬ s_X11_tryRule_k 0 z = 0 ∧ OB y h T z Hs s0 s1 w9))) (vx_runSX (As := [.ref h, .int 0]) (rest := []) ⟨hx, hb, hml, hown, hts⟩ (w_tryRule l G y h 0 w T z Hs s0 s1 H.size hO hz  hfl) (vx_cwSW 2 hts gL_refuses_L_tryRule rfl rfl rfl (by decide +kernel) ⟨Nat.le_of_ble_eq_true rfl, Nat.le_of_ble_eq_true rfl⟩) (PHZ_S hP hK hN hD hTY hS (F_0 hD hS hA)) rfl rfl hl.1 rfl (lv_room (Nat.le_of_ble_eq_true rfl)) dL_refuses_241 ⟨Nat.le_of_ble_eq_true rfl, Nat.le_of_ble_eq_true rfl⟩) hD hS hA (fun w H locs hO hP hD hS => ?_)
        have hO : OB y h T z Hs s0 s1 w := on (k_241 c_22) hO
        refine lv_ldc (v := (-999003)) hx hb hown (hts (.constant RL 18 (-999003)) (by decide +kernel)) dL_refuses_244 ?_
        refine lv_icmp_ne (tgt := 266) hx hb dL_refuses_246 (by decide) (fun c9 => absurd (f_246 c_22) c9) (fun _ => ?_)
        exact J249_23 w hO H locs hP hD hS ls (lv_sub hl [0, 3] rfl)
      · refine lv_iload_n hx hb dL_refuses_233 rfl (lv_at hl 0 rfl) ?_
        refine lv_bipush (v := 8) hx hb dL_refuses_234 (by decide) ?_
        refine lv_icmp_lt (tgt := 249) hx hb dL_refuses_236 (by decide) (fun c_46 => ?_) (fun c_46 => ?_)
        · refine W.widen (k := 21) (n := 126) (by omega) (by omega) ?_
          exact J249_23 w hO H locs hP hD hS ls (lv_sub hl [0, 3] rfl)
        · refine lv_aload_n hx hb dL_refuses_239 rfl (lv_at hl 3 rfl) ?_
          refine lv_iconst (v := 0) hx hb dL_refuses_240 (by decide) ?_
          refine cl_O (Φ := (fun w9 => (s_X11_tryRule_k 0 z = 0 ∧ OB y h T (s_X11_tryRule_z 0 z) (hpu z Hs) s0 s1 w9) ∨ (¬ s_X11_tryRule_k 0 z = 0 ∧ OB y h T z Hs s0 s1 w9))) (vx_runSX (As := [.ref h, .int 0]) (rest := []) ⟨hx, hb, hml, hown, hts⟩ (w_tryRule l G y h 0 w T z Hs s0 s1 H.size hO hz  hfl) (vx_cwSW 2 hts gL_refuses_L_tryRule rfl rfl rfl (by decide +kernel) ⟨Nat.le_of_ble_eq_true rfl, Nat.le_of_ble_eq_true rfl⟩) (PHZ_S hP hK hN hD hTY hS (F_0 hD hS hA)) rfl rfl hl.1 rfl (lv_room (Nat.le_of_ble_eq_true rfl)) dL_refuses_241 ⟨Nat.le_of_ble_eq_true rfl, Nat.le_of_ble_eq_true rfl⟩) hD hS hA (fun w H locs hO hP hD hS => ?_)
          have hO : OB y h T z Hs s0 s1 w := on (k_241b c_22 c_46) hO
          refine lv_ldc (v := (-999003)) hx hb hown (hts (.constant RL 18 (-999003)) (by decide +kernel)) dL_refuses_244 ?_
          refine lv_icmp_ne (tgt := 266) hx hb dL_refuses_246 (by decide) (fun c9 => absurd (f_246b c_22 c_46) c9) (fun _ => ?_)
          exact J249_23 w hO H locs hP hD hS ls (lv_sub hl [0, 3] rfl)
    refine lv_if_eq (tgt := 66) hx hb dL_refuses_52 (by decide) (fun c_6 => ?_) (fun c_6 => ?_)
    · refine W.widen (k := 6) (n := 36) (by omega) (by omega) ?_
      exact J66_7 w hO H locs hP hD hS ls (lv_sub hl [0, 1, 2, 3] rfl)
    · refine lv_aload_n hx hb dL_refuses_55 rfl (lv_at hl 3 rfl) ?_
      refine lv_iconst (v := 0) hx hb dL_refuses_56 (by decide) ?_
      refine lv_iconst (v := 5) hx hb dL_refuses_57 (by decide) ?_
      refine cl_O (Φ := (fun w9 => OB y h T z Hs s0 s1 w9)) (vx_runSX (As := [.ref h, .int 0, .int 5]) (rest := []) ⟨hx, hb, hml, hown, hts⟩ (w_swing l G y h 0 5 w T z Hs s0 s1 H.size hO hz  hfl) (vx_cwSW 3 hts gL_refuses_L_trySwing rfl rfl rfl (by decide +kernel) ⟨Nat.le_of_ble_eq_true rfl, Nat.le_of_ble_eq_true rfl⟩) (PHZ_S hP hK hN hD hTY hS (F_0 hD hS hA)) rfl rfl hl.1 rfl (lv_room (Nat.le_of_ble_eq_true rfl)) dL_refuses_58 ⟨Nat.le_of_ble_eq_true rfl, Nat.le_of_ble_eq_true rfl⟩) hD hS hA (fun w H locs hO hP hD hS => ?_)
      refine lv_ldc (v := (-999002)) hx hb hown (hts (.constant RL 15 (-999002)) (by decide +kernel)) dL_refuses_61 ?_
      refine lv_icmp_ne (tgt := 266) hx hb dL_refuses_63 (by decide) (fun c9 => absurd (f_63 c_6) c9) (fun _ => ?_)
      exact J66_7 w hO H locs hP hD hS ls (lv_sub hl [0, 1, 2, 3] rfl)
  refine lv_if_ne (tgt := 20) hx hb dL_refuses_13 (by decide) (fun c_1 => ?_) (fun c_1 => ?_)
  · refine lv_iconst (v := 0) hx hb dL_refuses_20 (by decide) ?_
    exact J21_3 _ ((if_neg c_1).symm) w hO H locs hP hD hS ls (lv_sub hl [0, 1] rfl)
  · refine lv_iconst (v := 1) hx hb dL_refuses_16 (by decide) ?_
    refine lv_goto (tgt := 21) hx hb dL_refuses_17 (by decide) ?_
    exact J21_3 _ ((if_pos c_1).symm) w hO H locs hP hD hS ls (lv_sub hl [0, 1] rfl)

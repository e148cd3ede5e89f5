abbrev rmL_hands : Room := ({ frames := 10, cells := 926, slots := 5556, locals := 207 } : Room)
set_option maxHeartbeats 2000000 in
set_option maxRecDepth 20000 in
theorem c_L_hands (l : Launch) (G : va_G) (y : Nat → ClassId) (h : Nat) (x : Int32) (w : va_W) (T : List Int32) (z : Zs) (s0 s1 : Option Zs) (sz : Nat) (hO : OB y h T z [] s0 s1 w) (hz : TS z) (hF : FX_hands x T z s0 s1) (hfl : l.stackTraces = false) : Met l yL_hands wsL_hands rmL_hands (PHZ G y [.ref h, .int x] w sz) (QO G 1 (fun w9 => OB y h T z [] (some z) s1 w9) (va_A w sz)) 926 5556 (va_A w sz) := by
  refine Met.ofW (cc := cL_hands) (maxL := 23) (ret := (some .boolean)) (by decide) rfl ?_
  intro p e s m args below meth c s₁ B hml hv
  obtain ⟨rfl, hsz, hP, ⟨hK, hN⟩, hD0, hTY⟩ := hv
  have hx := B.exec
  have hb := B.bytes
  have hr := B.returns
  have hts := atoms_spec (ws := wsL_hands) B.pre
  have hown : s.vm.findClass RL = some m.cls := findClass_of_methodNamed B.named
  subst hsz
  have hD := hD0.self (sz := s.heap.size)
  generalize hAe : va_A w s.heap.size = A at hD hTY ⊢
  have hA : ∀ q : Nat, s.heap.size ≤ q → A q := fun q h => by rw [← hAe]; exact Or.inr h
  have hS : va_S A s.heap s.heap [] := va_S.rf
  obtain ⟨k_55, f_59, f_142, f_167, f_192, f_947, k_1066, t_1066, f_1074, f_1087, f_1097, k_1102, t_1102, f_1106, m_1122, k_1130, t_1130, f_1134, k_1138, f_1143, f_994, f_1019, f_973, k_849, t_849, f_852, f_863, k_899, t_899, f_903, k_878, t_878, f_883, f_894, k_899b, t_899b, f_903b, k_820, t_820, f_823, f_834, k_899c, t_899c, f_903c, n_683, k_721, t_721, f_726, f_738, m_762, k_770, t_770, f_774, f_758, f_236, f_241, f_246, f_254, f_262, f_270, f_327, f_342, f_357, k_406, t_406, f_411, f_422, f_433, f_444, f_454, f_467, m_471, f_486, k_492, t_492, f_497, k_501, t_501, f_506, f_517, f_528, f_539, f_550, f_570, m_574, k_582, t_582, f_586, k_604, t_604, f_609, t_613, f_620, f_629, f_640, k_644, f_649, k_654, t_654, f_658, f_305, f_312, f_291, f_281⟩ := hF
  have hl := lv_entry ([.ref h, .int x]) (n := 23) (Nat.le_of_ble_eq_true rfl)
  rw [lg_entry_eq]
  generalize (lg_sl ([.ref h, .int x]) ++ List.replicate (23 - (lg_sl ([.ref h, .int x])).length) Slot.unset).toArray = ls at hl ⊢
  have hl : lv_has ls 23 [(0, .ref h), (1, .int x)] := hl
  obtain ⟨QQ, hQQ⟩ : ∃ zq9, zq9 = MQ below (QO G 1 (fun w9 => OB y h T z [] (some z) s1 w9) A) ([.ref h, .int x] : List Value).toArray s 926 5556 A := ⟨_, rfl⟩
  rw [← hQQ]
  refine lv_aload_n hx hb dL_hands_0 rfl (lv_at hl 0 rfl) ?_
  refine lv_bipush (v := 13) hx hb dL_hands_1 (by decide) ?_
  refine cl_O (Φ := (fun w9 => OB y h T z [] s0 s1 w9)) (vx_runSX (As := [.ref h, .int 13]) (rest := []) ⟨hx, hb, hml, hown, hts⟩ (w_about l G y h 13 w T z [] s0 s1 s.heap.size hO hz  hfl) (vx_cwSW 2 hts gL_hands_L_tryAbout rfl rfl rfl (by decide +kernel) ⟨Nat.le_of_ble_eq_true rfl, Nat.le_of_ble_eq_true rfl⟩) (PHZ_S hP hK hN hD hTY hS (F_0 hD hS hA)) rfl rfl hl.1 rfl (lv_room (Nat.le_of_ble_eq_true rfl)) dL_hands_3 ⟨Nat.le_of_ble_eq_true rfl, Nat.le_of_ble_eq_true rfl⟩) hD hS hA (fun w H locs hO hP hD hS => ?_)
  refine lv_istore_n (lv' := [(2, .int (qAbout 13 z)), (0, .ref h), (1, .int x)]) hx hb dL_hands_6 rfl hl (by decide) rfl (fun ls hl => ?_)
  refine lv_aload_n hx hb dL_hands_7 rfl (lv_at hl 1 rfl) ?_
  refine lv_bipush (v := 16) hx hb dL_hands_8 (by decide) ?_
  refine cl_O (Φ := (fun w9 => OB y h T z [] s0 s1 w9)) (vx_runSX (As := [.ref h, .int 16]) (rest := []) ⟨hx, hb, hml, hown, hts⟩ (w_about l G y h 16 w T z [] s0 s1 H.size hO hz  hfl) (vx_cwSW 2 hts gL_hands_L_tryAbout rfl rfl rfl (by decide +kernel) ⟨Nat.le_of_ble_eq_true rfl, Nat.le_of_ble_eq_true rfl⟩) (PHZ_S hP hK hN hD hTY hS (F_0 hD hS hA)) rfl rfl hl.1 rfl (lv_room (Nat.le_of_ble_eq_true rfl)) dL_hands_10 ⟨Nat.le_of_ble_eq_true rfl, Nat.le_of_ble_eq_true rfl⟩) hD hS hA (fun w H locs hO hP hD hS => ?_)
  refine lv_istore_n (lv' := [(3, .int (qAbout 16 z)), (2, .int (qAbout 13 z)), (0, .ref h), (1, .int x)]) hx hb dL_hands_13 rfl hl (by decide) rfl (fun ls hl => ?_)
  refine lv_aload_n hx hb dL_hands_14 rfl (lv_at hl 2 rfl) ?_
  refine lv_bipush (v := 17) hx hb dL_hands_15 (by decide) ?_
  refine cl_O (Φ := (fun w9 => OB y h T z [] s0 s1 w9)) (vx_runSX (As := [.ref h, .int 17]) (rest := []) ⟨hx, hb, hml, hown, hts⟩ (w_about l G y h 17 w T z [] s0 s1 H.size hO hz  hfl) (vx_cwSW 2 hts gL_hands_L_tryAbout rfl rfl rfl (by decide +kernel) ⟨Nat.le_of_ble_eq_true rfl, Nat.le_of_ble_eq_true rfl⟩) (PHZ_S hP hK hN hD hTY hS (F_0 hD hS hA)) rfl rfl hl.1 rfl (lv_room (Nat.le_of_ble_eq_true rfl)) dL_hands_17 ⟨Nat.le_of_ble_eq_true rfl, Nat.le_of_ble_eq_true rfl⟩) hD hS hA (fun w H locs hO hP hD hS => ?_)
  refine lv_istore (lv' := [(4, .int (qAbout 17 z)), (3, .int (qAbout 16 z)), (2, .int (qAbout 13 z)), (0, .ref h), (1, .int x)]) hx hb dL_hands_20 hl (by decide) rfl (fun ls hl => ?_)
  refine lv_aload_n hx hb dL_hands_22 rfl (lv_at hl 3 rfl) ?_
  refine lv_bipush (v := 18) hx hb dL_hands_23 (by decide) ?_
  refine cl_O (Φ := (fun w9 => OB y h T z [] s0 s1 w9)) (vx_runSX (As := [.ref h, .int 18]) (rest := []) ⟨hx, hb, hml, hown, hts⟩ (w_about l G y h 18 w T z [] s0 s1 H.size hO hz  hfl) (vx_cwSW 2 hts gL_hands_L_tryAbout rfl rfl rfl (by decide +kernel) ⟨Nat.le_of_ble_eq_true rfl, Nat.le_of_ble_eq_true rfl⟩) (PHZ_S hP hK hN hD hTY hS (F_0 hD hS hA)) rfl rfl hl.1 rfl (lv_room (Nat.le_of_ble_eq_true rfl)) dL_hands_25 ⟨Nat.le_of_ble_eq_true rfl, Nat.le_of_ble_eq_true rfl⟩) hD hS hA (fun w H locs hO hP hD hS => ?_)
  refine lv_istore (lv' := [(5, .int (qAbout 18 z)), (4, .int (qAbout 17 z)), (3, .int (qAbout 16 z)), (2, .int (qAbout 13 z)), (0, .ref h), (1, .int x)]) hx hb dL_hands_28 hl (by decide) rfl (fun ls hl => ?_)
  refine lv_iload_n hx hb dL_hands_30 rfl (lv_at hl 5 rfl) ?_
  refine lv_iconst (v := 4) hx hb dL_hands_31 (by decide) ?_
  refine lv_irem hx hb dL_hands_32 (by decide) ?_
  refine lv_istore (lv' := [(6, .int (x - x / 4 * 4)), (5, .int (qAbout 18 z)), (4, .int (qAbout 17 z)), (3, .int (qAbout 16 z)), (2, .int (qAbout 13 z)), (0, .ref h), (1, .int x)]) hx hb dL_hands_33 hl (by decide) rfl (fun ls hl => ?_)
  refine lv_iconst (v := 1) hx hb dL_hands_35 (by decide) ?_
  refine lv_iload_n hx hb dL_hands_36 rfl (lv_at hl 6 rfl) ?_
  refine lv_iconst (v := 4) hx hb dL_hands_37 (by decide) ?_
  refine lv_idiv hx hb dL_hands_38 (by decide) ?_
  refine lv_bipush (v := 60) hx hb dL_hands_39 (by decide) ?_
  refine lv_irem hx hb dL_hands_41 (by decide) ?_
  refine lv_iadd hx hb dL_hands_42 ?_
  refine lv_istore (lv' := [(7, .int (1 + ((x / 4) - (x / 4) / 60 * 60))), (6, .int (x - x / 4 * 4)), (5, .int (qAbout 18 z)), (4, .int (qAbout 17 z)), (3, .int (qAbout 16 z)), (2, .int (qAbout 13 z)), (0, .ref h), (1, .int x)]) hx hb dL_hands_43 hl (by decide) rfl (fun ls hl => ?_)
  refine lv_aload_n hx hb dL_hands_45 rfl (lv_at hl 6 rfl) ?_
  refine lv_bipush (v := 11) hx hb dL_hands_46 (by decide) ?_
  refine cl_O (Φ := (fun w9 => OB y h T z [] s0 s1 w9)) (vx_runSX (As := [.ref h, .int 11]) (rest := []) ⟨hx, hb, hml, hown, hts⟩ (w_about l G y h 11 w T z [] s0 s1 H.size hO hz  hfl) (vx_cwSW 2 hts gL_hands_L_tryAbout rfl rfl rfl (by decide +kernel) ⟨Nat.le_of_ble_eq_true rfl, Nat.le_of_ble_eq_true rfl⟩) (PHZ_S hP hK hN hD hTY hS (F_0 hD hS hA)) rfl rfl hl.1 rfl (lv_room (Nat.le_of_ble_eq_true rfl)) dL_hands_48 ⟨Nat.le_of_ble_eq_true rfl, Nat.le_of_ble_eq_true rfl⟩) hD hS hA (fun w H locs hO hP hD hS => ?_)
  refine lv_istore (lv' := [(8, .int (qAbout 11 z)), (7, .int (1 + ((x / 4) - (x / 4) / 60 * 60))), (6, .int (x - x / 4 * 4)), (5, .int (qAbout 18 z)), (4, .int (qAbout 17 z)), (3, .int (qAbout 16 z)), (2, .int (qAbout 13 z)), (0, .ref h), (1, .int x)]) hx hb dL_hands_51 hl (by decide) rfl (fun ls hl => ?_)
  refine lv_aload_n hx hb dL_hands_53 rfl (lv_at hl 7 rfl) ?_
  refine lv_iconst (v := 0) hx hb dL_hands_54 (by decide) ?_
  refine cl_O (Φ := (fun w9 => (s_X11_save_k 0 = 0 ∧ OB y h T z [] (some z) s1 w9) ∨ (¬ s_X11_save_k 0 = 0 ∧ OB y h T z [] s0 s1 w9))) (vx_runSX (As := [.ref h, .int 0]) (rest := []) ⟨hx, hb, hml, hown, hts⟩ (w_save l G y h 0 w T z [] s0 s1 H.size hO hz  hfl) (vx_cwSW 2 hts gL_hands_L_trySave rfl rfl rfl (by decide +kernel) ⟨Nat.le_of_ble_eq_true rfl, Nat.le_of_ble_eq_true rfl⟩) (PHZ_S hP hK hN hD hTY hS (F_0 hD hS hA)) rfl rfl hl.1 rfl (lv_room (Nat.le_of_ble_eq_true rfl)) dL_hands_55 ⟨Nat.le_of_ble_eq_true rfl, Nat.le_of_ble_eq_true rfl⟩) hD hS hA (fun w H locs hO hP hD hS => ?_)
  have hO : OB y h T z [] (some z) s1 w := oy k_55 hO
  refine lv_iload_n hx hb dL_hands_58 rfl (lv_at hl 6 rfl) ?_
  refine lv_icmp_ne (tgt := 66) hx hb dL_hands_59 (by decide) (fun c9 => absurd f_59 c9) (fun _ => ?_)
  refine lv_iconst (v := 1) hx hb dL_hands_62 (by decide) ?_
  refine lv_goto (tgt := 67) hx hb dL_hands_63 (by decide) ?_
  refine lv_istore (lv' := [(9, .int 1), (8, .int (qAbout 11 z)), (7, .int (1 + ((x / 4) - (x / 4) / 60 * 60))), (6, .int (x - x / 4 * 4)), (5, .int (qAbout 18 z)), (4, .int (qAbout 17 z)), (3, .int (qAbout 16 z)), (2, .int (qAbout 13 z)), (0, .ref h), (1, .int x)]) hx hb dL_hands_67 hl (by decide) rfl (fun ls hl => ?_)
  refine lv_aload_n hx hb dL_hands_69 rfl (lv_at hl 8 rfl) ?_
  refine lv_iload hx hb dL_hands_70 (lv_at hl 3 rfl) ?_
  refine lv_iconst (v := 0) hx hb dL_hands_72 (by decide) ?_
  refine cl_O (Φ := (fun w9 => OB y h T z [] (some z) s1 w9)) (vx_runSX (As := [.ref h, .int (x - x / 4 * 4), .int 0]) (rest := []) ⟨hx, hb, hml, hown, hts⟩ (w_proposal l G y h (x - x / 4 * 4) 0 w T z [] (some z) s1 H.size hO hz  hfl) (vx_cwSW 3 hts gL_hands_L_tryProposal rfl rfl rfl (by decide +kernel) ⟨Nat.le_of_ble_eq_true rfl, Nat.le_of_ble_eq_true rfl⟩) (PHZ_S hP hK hN hD hTY hS (F_0 hD hS hA)) rfl rfl hl.1 rfl (lv_room (Nat.le_of_ble_eq_true rfl)) dL_hands_73 ⟨Nat.le_of_ble_eq_true rfl, Nat.le_of_ble_eq_true rfl⟩) hD hS hA (fun w H locs hO hP hD hS => ?_)
  refine lv_istore (lv' := [(10, .int (qProp (x - x / 4 * 4) 0 z)), (9, .int 1), (8, .int (qAbout 11 z)), (7, .int (1 + ((x / 4) - (x / 4) / 60 * 60))), (6, .int (x - x / 4 * 4)), (5, .int (qAbout 18 z)), (4, .int (qAbout 17 z)), (3, .int (qAbout 16 z)), (2, .int (qAbout 13 z)), (0, .ref h), (1, .int x)]) hx hb dL_hands_76 hl (by decide) rfl (fun ls hl => ?_)
  refine lv_aload_n hx hb dL_hands_78 rfl (lv_at hl 9 rfl) ?_
  refine lv_iload hx hb dL_hands_79 (lv_at hl 4 rfl) ?_
  refine lv_iconst (v := 1) hx hb dL_hands_81 (by decide) ?_
  refine cl_O (Φ := (fun w9 => OB y h T z [] (some z) s1 w9)) (vx_runSX (As := [.ref h, .int (x - x / 4 * 4), .int 1]) (rest := []) ⟨hx, hb, hml, hown, hts⟩ (w_proposal l G y h (x - x / 4 * 4) 1 w T z [] (some z) s1 H.size hO hz  hfl) (vx_cwSW 3 hts gL_hands_L_tryProposal rfl rfl rfl (by decide +kernel) ⟨Nat.le_of_ble_eq_true rfl, Nat.le_of_ble_eq_true rfl⟩) (PHZ_S hP hK hN hD hTY hS (F_0 hD hS hA)) rfl rfl hl.1 rfl (lv_room (Nat.le_of_ble_eq_true rfl)) dL_hands_82 ⟨Nat.le_of_ble_eq_true rfl, Nat.le_of_ble_eq_true rfl⟩) hD hS hA (fun w H locs hO hP hD hS => ?_)
  refine lv_istore (lv' := [(11, .int (qProp (x - x / 4 * 4) 1 z)), (10, .int (qProp (x - x / 4 * 4) 0 z)), (9, .int 1), (8, .int (qAbout 11 z)), (7, .int (1 + ((x / 4) - (x / 4) / 60 * 60))), (6, .int (x - x / 4 * 4)), (5, .int (qAbout 18 z)), (4, .int (qAbout 17 z)), (3, .int (qAbout 16 z)), (2, .int (qAbout 13 z)), (0, .ref h), (1, .int x)]) hx hb dL_hands_85 hl (by decide) rfl (fun ls hl => ?_)
  refine lv_aload_n hx hb dL_hands_87 rfl (lv_at hl 10 rfl) ?_
  refine lv_iload hx hb dL_hands_88 (lv_at hl 5 rfl) ?_
  refine lv_iconst (v := 2) hx hb dL_hands_90 (by decide) ?_
  refine cl_O (Φ := (fun w9 => OB y h T z [] (some z) s1 w9)) (vx_runSX (As := [.ref h, .int (x - x / 4 * 4), .int 2]) (rest := []) ⟨hx, hb, hml, hown, hts⟩ (w_proposal l G y h (x - x / 4 * 4) 2 w T z [] (some z) s1 H.size hO hz  hfl) (vx_cwSW 3 hts gL_hands_L_tryProposal rfl rfl rfl (by decide +kernel) ⟨Nat.le_of_ble_eq_true rfl, Nat.le_of_ble_eq_true rfl⟩) (PHZ_S hP hK hN hD hTY hS (F_0 hD hS hA)) rfl rfl hl.1 rfl (lv_room (Nat.le_of_ble_eq_true rfl)) dL_hands_91 ⟨Nat.le_of_ble_eq_true rfl, Nat.le_of_ble_eq_true rfl⟩) hD hS hA (fun w H locs hO hP hD hS => ?_)
  refine lv_istore (lv' := [(12, .int (qProp (x - x / 4 * 4) 2 z)), (11, .int (qProp (x - x / 4 * 4) 1 z)), (10, .int (qProp (x - x / 4 * 4) 0 z)), (9, .int 1), (8, .int (qAbout 11 z)), (7, .int (1 + ((x / 4) - (x / 4) / 60 * 60))), (6, .int (x - x / 4 * 4)), (5, .int (qAbout 18 z)), (4, .int (qAbout 17 z)), (3, .int (qAbout 16 z)), (2, .int (qAbout 13 z)), (0, .ref h), (1, .int x)]) hx hb dL_hands_94 hl (by decide) rfl (fun ls hl => ?_)
  refine lv_aload_n hx hb dL_hands_96 rfl (lv_at hl 11 rfl) ?_
  refine lv_iload hx hb dL_hands_97 (lv_at hl 6 rfl) ?_
  refine lv_iload hx hb dL_hands_99 (lv_at hl 5 rfl) ?_
  refine lv_iconst (v := 4) hx hb dL_hands_101 (by decide) ?_
  refine cl_O (Φ := (fun w9 => OB y h T z [] (some z) s1 w9)) (vx_runSX (As := [.ref h, .int (x - x / 4 * 4), .int (1 + ((x / 4) - (x / 4) / 60 * 60)), .int 4]) (rest := []) ⟨hx, hb, hml, hown, hts⟩ (w_outcome l G y h (x - x / 4 * 4) (1 + ((x / 4) - (x / 4) / 60 * 60)) 4 w T z [] (some z) s1 H.size hO hz  hfl) (vx_cwSW 4 hts gL_hands_L_tryOutcome rfl rfl rfl (by decide +kernel) ⟨Nat.le_of_ble_eq_true rfl, Nat.le_of_ble_eq_true rfl⟩) (PHZ_S hP hK hN hD hTY hS (F_0 hD hS hA)) rfl rfl hl.1 rfl (lv_room (Nat.le_of_ble_eq_true rfl)) dL_hands_102 ⟨Nat.le_of_ble_eq_true rfl, Nat.le_of_ble_eq_true rfl⟩) hD hS hA (fun w H locs hO hP hD hS => ?_)
  refine lv_istore (lv' := [(13, .int (qOut (x - x / 4 * 4) (1 + ((x / 4) - (x / 4) / 60 * 60)) 4 z)), (12, .int (qProp (x - x / 4 * 4) 2 z)), (11, .int (qProp (x - x / 4 * 4) 1 z)), (10, .int (qProp (x - x / 4 * 4) 0 z)), (9, .int 1), (8, .int (qAbout 11 z)), (7, .int (1 + ((x / 4) - (x / 4) / 60 * 60))), (6, .int (x - x / 4 * 4)), (5, .int (qAbout 18 z)), (4, .int (qAbout 17 z)), (3, .int (qAbout 16 z)), (2, .int (qAbout 13 z)), (0, .ref h), (1, .int x)]) hx hb dL_hands_105 hl (by decide) rfl (fun ls hl => ?_)
  refine lv_aload_n hx hb dL_hands_107 rfl (lv_at hl 12 rfl) ?_
  refine lv_iload hx hb dL_hands_108 (lv_at hl 6 rfl) ?_
  refine cl_O (Φ := (fun w9 => OB y h T z [] (some z) s1 w9)) (vx_runSX (As := [.ref h, .int (1 + ((x / 4) - (x / 4) / 60 * 60))]) (rest := []) ⟨hx, hb, hml, hown, hts⟩ (w_bestRule l G y h (1 + ((x / 4) - (x / 4) / 60 * 60)) w T z [] (some z) s1 H.size hO hz  hfl) (vx_cwSW 2 hts gL_hands_L_tryBestRule rfl rfl rfl (by decide +kernel) ⟨Nat.le_of_ble_eq_true rfl, Nat.le_of_ble_eq_true rfl⟩) (PHZ_S hP hK hN hD hTY hS (F_0 hD hS hA)) rfl rfl hl.1 rfl (lv_room (Nat.le_of_ble_eq_true rfl)) dL_hands_110 ⟨Nat.le_of_ble_eq_true rfl, Nat.le_of_ble_eq_true rfl⟩) hD hS hA (fun w H locs hO hP hD hS => ?_)
  refine lv_istore (lv' := [(14, .int (qBest (1 + ((x / 4) - (x / 4) / 60 * 60)) z)), (13, .int (qOut (x - x / 4 * 4) (1 + ((x / 4) - (x / 4) / 60 * 60)) 4 z)), (12, .int (qProp (x - x / 4 * 4) 2 z)), (11, .int (qProp (x - x / 4 * 4) 1 z)), (10, .int (qProp (x - x / 4 * 4) 0 z)), (9, .int 1), (8, .int (qAbout 11 z)), (7, .int (1 + ((x / 4) - (x / 4) / 60 * 60))), (6, .int (x - x / 4 * 4)), (5, .int (qAbout 18 z)), (4, .int (qAbout 17 z)), (3, .int (qAbout 16 z)), (2, .int (qAbout 13 z)), (0, .ref h), (1, .int x)]) hx hb dL_hands_113 hl (by decide) rfl (fun ls hl => ?_)
  refine lv_iload hx hb dL_hands_115 (lv_at hl 5 rfl) ?_
  refine lv_if_eq (tgt := 199) hx hb dL_hands_117 (by decide) (fun c_2 => (by first | exact absurd c_2 (by decide : ¬ ((1 : Int32) = 0)) | exact absurd (by decide : ¬ ((1 : Int32) = 0)) c_2)) (fun _ => ?_)
  refine lv_iload hx hb dL_hands_120 (lv_at hl 10 rfl) ?_
  have J130_5 : ∀ (v_4 : Int32) (e_v_4 : v_4 = (if (qAbout 17 z) = 0 then (1 : Int32) else (0 : Int32))) (w : va_W) (hO : OB y h T z [] (some z) s1 w) (H : Heap) (locs : List Loc) (hP : va_P G vwCl w H) (hD : va_D A w) (hS : va_S A s.heap H locs) (ls : Array Slot) (hl : lv_has ls 23 [(14, .int (qBest (1 + ((x / 4) - (x / 4) / 60 * 60)) z)), (13, .int (qOut (x - x / 4 * 4) (1 + ((x / 4) - (x / 4) / 60 * 60)) 4 z)), (12, .int (qProp (x - x / 4 * 4) 2 z)), (11, .int (qProp (x - x / 4 * 4) 1 z)), (10, .int (qProp (x - x / 4 * 4) 0 z)), (8, .int (qAbout 11 z)), (7, .int (1 + ((x / 4) - (x / 4) / 60 * 60))), (6, .int (x - x / 4 * 4)), (5, .int (qAbout 18 z)), (4, .int (qAbout 17 z)), (3, .int (qAbout 16 z)), (2, .int (qAbout 13 z)), (0, .ref h), (1, .int x)]), W p l e (headSpec wsL_hands rmL_hands).room s m ([.ref h, .int x] : List Value).toArray below meth c H locs 11 66 QQ (F0 m 130 ls [.int v_4]) := by
    intro v_4 e_v_4 w hO H locs hP hD hS ls hl
    subst e_v_4
    refine lv_iload hx hb dL_hands_130 (lv_at hl 4 rfl) ?_
    refine lv_ldc (v := (-99999)) hx hb hown (hts (.constant RL 119 (-99999)) (by decide +kernel)) dL_hands_132 ?_
    have J142_8 : ∀ (v_7 : Int32) (e_v_7 : v_7 = (if (qProp (x - x / 4 * 4) 0 z) = (-99999) then (1 : Int32) else (0 : Int32))) (w : va_W) (hO : OB y h T z [] (some z) s1 w) (H : Heap) (locs : List Loc) (hP : va_P G vwCl w H) (hD : va_D A w) (hS : va_S A s.heap H locs) (ls : Array Slot) (hl : lv_has ls 23 [(14, .int (qBest (1 + ((x / 4) - (x / 4) / 60 * 60)) z)), (13, .int (qOut (x - x / 4 * 4) (1 + ((x / 4) - (x / 4) / 60 * 60)) 4 z)), (12, .int (qProp (x - x / 4 * 4) 2 z)), (11, .int (qProp (x - x / 4 * 4) 1 z)), (10, .int (qProp (x - x / 4 * 4) 0 z)), (8, .int (qAbout 11 z)), (7, .int (1 + ((x / 4) - (x / 4) / 60 * 60))), (6, .int (x - x / 4 * 4)), (5, .int (qAbout 18 z)), (4, .int (qAbout 17 z)), (3, .int (qAbout 16 z)), (2, .int (qAbout 13 z)), (0, .ref h), (1, .int x)]), W p l e (headSpec wsL_hands rmL_hands).room s m ([.ref h, .int x] : List Value).toArray below meth c H locs 11 66 QQ (F0 m 142 ls [.int v_7, .int (if (qAbout 17 z) = 0 then (1 : Int32) else (0 : Int32))]) := by
      intro v_7 e_v_7 w hO H locs hP hD hS ls hl
      subst e_v_7
      refine lv_icmp_ne (tgt := 199) hx hb dL_hands_142 (by decide) (fun c9 => absurd f_142 c9) (fun _ => ?_)
      refine lv_iload hx hb dL_hands_145 (lv_at hl 9 rfl) ?_
      have J155_12 : ∀ (v_11 : Int32) (e_v_11 : v_11 = (if (qAbout 17 z) = 0 then (1 : Int32) else (0 : Int32))) (w : va_W) (hO : OB y h T z [] (some z) s1 w) (H : Heap) (locs : List Loc) (hP : va_P G vwCl w H) (hD : va_D A w) (hS : va_S A s.heap H locs) (ls : Array Slot) (hl : lv_has ls 23 [(14, .int (qBest (1 + ((x / 4) - (x / 4) / 60 * 60)) z)), (13, .int (qOut (x - x / 4 * 4) (1 + ((x / 4) - (x / 4) / 60 * 60)) 4 z)), (12, .int (qProp (x - x / 4 * 4) 2 z)), (11, .int (qProp (x - x / 4 * 4) 1 z)), (10, .int (qProp (x - x / 4 * 4) 0 z)), (8, .int (qAbout 11 z)), (7, .int (1 + ((x / 4) - (x / 4) / 60 * 60))), (6, .int (x - x / 4 * 4)), (5, .int (qAbout 18 z)), (4, .int (qAbout 17 z)), (3, .int (qAbout 16 z)), (2, .int (qAbout 13 z)), (0, .ref h), (1, .int x)]), W p l e (headSpec wsL_hands rmL_hands).room s m ([.ref h, .int x] : List Value).toArray below meth c H locs 11 66 QQ (F0 m 155 ls [.int v_11]) := by
        intro v_11 e_v_11 w hO H locs hP hD hS ls hl
        subst e_v_11
        refine lv_iload hx hb dL_hands_155 (lv_at hl 1 rfl) ?_
        refine lv_ldc (v := (-99999)) hx hb hown (hts (.constant RL 119 (-99999)) (by decide +kernel)) dL_hands_157 ?_
        have J167_15 : ∀ (v_14 : Int32) (e_v_14 : v_14 = (if (qOut (x - x / 4 * 4) (1 + ((x / 4) - (x / 4) / 60 * 60)) 4 z) = (-99999) then (1 : Int32) else (0 : Int32))) (w : va_W) (hO : OB y h T z [] (some z) s1 w) (H : Heap) (locs : List Loc) (hP : va_P G vwCl w H) (hD : va_D A w) (hS : va_S A s.heap H locs) (ls : Array Slot) (hl : lv_has ls 23 [(14, .int (qBest (1 + ((x / 4) - (x / 4) / 60 * 60)) z)), (13, .int (qOut (x - x / 4 * 4) (1 + ((x / 4) - (x / 4) / 60 * 60)) 4 z)), (12, .int (qProp (x - x / 4 * 4) 2 z)), (11, .int (qProp (x - x / 4 * 4) 1 z)), (10, .int (qProp (x - x / 4 * 4) 0 z)), (8, .int (qAbout 11 z)), (7, .int (1 + ((x / 4) - (x / 4) / 60 * 60))), (6, .int (x - x / 4 * 4)), (5, .int (qAbout 18 z)), (4, .int (qAbout 17 z)), (3, .int (qAbout 16 z)), (2, .int (qAbout 13 z)), (0, .ref h), (1, .int x)]), W p l e (headSpec wsL_hands rmL_hands).room s m ([.ref h, .int x] : List Value).toArray below meth c H locs 11 66 QQ (F0 m 167 ls [.int v_14, .int (if (qAbout 17 z) = 0 then (1 : Int32) else (0 : Int32))]) := by
          intro v_14 e_v_14 w hO H locs hP hD hS ls hl
          subst e_v_14
          refine lv_icmp_ne (tgt := 199) hx hb dL_hands_167 (by decide) (fun c9 => absurd f_167 c9) (fun _ => ?_)
          refine lv_iload hx hb dL_hands_170 (lv_at hl 9 rfl) ?_
          have J180_19 : ∀ (v_18 : Int32) (e_v_18 : v_18 = (if (qAbout 17 z) = 0 then (1 : Int32) else (0 : Int32))) (w : va_W) (hO : OB y h T z [] (some z) s1 w) (H : Heap) (locs : List Loc) (hP : va_P G vwCl w H) (hD : va_D A w) (hS : va_S A s.heap H locs) (ls : Array Slot) (hl : lv_has ls 23 [(14, .int (qBest (1 + ((x / 4) - (x / 4) / 60 * 60)) z)), (13, .int (qOut (x - x / 4 * 4) (1 + ((x / 4) - (x / 4) / 60 * 60)) 4 z)), (12, .int (qProp (x - x / 4 * 4) 2 z)), (11, .int (qProp (x - x / 4 * 4) 1 z)), (10, .int (qProp (x - x / 4 * 4) 0 z)), (8, .int (qAbout 11 z)), (7, .int (1 + ((x / 4) - (x / 4) / 60 * 60))), (6, .int (x - x / 4 * 4)), (5, .int (qAbout 18 z)), (4, .int (qAbout 17 z)), (3, .int (qAbout 16 z)), (2, .int (qAbout 13 z)), (0, .ref h), (1, .int x)]), W p l e (headSpec wsL_hands rmL_hands).room s m ([.ref h, .int x] : List Value).toArray below meth c H locs 11 66 QQ (F0 m 180 ls [.int v_18]) := by
            intro v_18 e_v_18 w hO H locs hP hD hS ls hl
            subst e_v_18
            refine lv_iload hx hb dL_hands_180 (lv_at hl 0 rfl) ?_
            refine lv_ldc (v := (-99999)) hx hb hown (hts (.constant RL 119 (-99999)) (by decide +kernel)) dL_hands_182 ?_
            have J192_22 : ∀ (v_21 : Int32) (e_v_21 : v_21 = (if (qBest (1 + ((x / 4) - (x / 4) / 60 * 60)) z) = (-99999) then (1 : Int32) else (0 : Int32))) (w : va_W) (hO : OB y h T z [] (some z) s1 w) (H : Heap) (locs : List Loc) (hP : va_P G vwCl w H) (hD : va_D A w) (hS : va_S A s.heap H locs) (ls : Array Slot) (hl : lv_has ls 23 [(14, .int (qBest (1 + ((x / 4) - (x / 4) / 60 * 60)) z)), (13, .int (qOut (x - x / 4 * 4) (1 + ((x / 4) - (x / 4) / 60 * 60)) 4 z)), (12, .int (qProp (x - x / 4 * 4) 2 z)), (11, .int (qProp (x - x / 4 * 4) 1 z)), (10, .int (qProp (x - x / 4 * 4) 0 z)), (8, .int (qAbout 11 z)), (7, .int (1 + ((x / 4) - (x / 4) / 60 * 60))), (6, .int (x - x / 4 * 4)), (5, .int (qAbout 18 z)), (4, .int (qAbout 17 z)), (3, .int (qAbout 16 z)), (2, .int (qAbout 13 z)), (0, .ref h), (1, .int x)]), W p l e (headSpec wsL_hands rmL_hands).room s m ([.ref h, .int x] : List Value).toArray below meth c H locs 11 66 QQ (F0 m 192 ls [.int v_21, .int (if (qAbout 17 z) = 0 then (1 : Int32) else (0 : Int32))]) := by
              intro v_21 e_v_21 w hO H locs hP hD hS ls hl
              subst e_v_21
              refine lv_icmp_ne (tgt := 199) hx hb dL_hands_192 (by decide) (fun c9 => absurd f_192 c9) (fun _ => ?_)
              refine lv_iconst (v := 1) hx hb dL_hands_195 (by decide) ?_
              refine lv_goto (tgt := 200) hx hb dL_hands_196 (by decide) ?_
              refine lv_istore (lv' := [(9, .int 1), (14, .int (qBest (1 + ((x / 4) - (x / 4) / 60 * 60)) z)), (13, .int (qOut (x - x / 4 * 4) (1 + ((x / 4) - (x / 4) / 60 * 60)) 4 z)), (12, .int (qProp (x - x / 4 * 4) 2 z)), (11, .int (qProp (x - x / 4 * 4) 1 z)), (10, .int (qProp (x - x / 4 * 4) 0 z)), (8, .int (qAbout 11 z)), (7, .int (1 + ((x / 4) - (x / 4) / 60 * 60))), (6, .int (x - x / 4 * 4)), (5, .int (qAbout 18 z)), (4, .int (qAbout 17 z)), (3, .int (qAbout 16 z)), (2, .int (qAbout 13 z)), (0, .ref h), (1, .int x)]) hx hb dL_hands_200 hl (by decide) rfl (fun ls hl => ?_)
              refine lv_iload hx hb dL_hands_202 (lv_at hl 10 rfl) ?_
              have J668_25 : ∀  (w : va_W) (hO : OB y h T z [] (some z) s1 w) (H : Heap) (locs : List Loc) (hP : va_P G vwCl w H) (hD : va_D A w) (hS : va_S A s.heap H locs) (ls : Array Slot) (hl : lv_has ls 23 [(9, .int 1), (3, .int (qAbout 16 z)), (2, .int (qAbout 13 z)), (0, .ref h), (1, .int x)]), W p l e (headSpec wsL_hands rmL_hands).room s m ([.ref h, .int x] : List Value).toArray below meth c H locs 532 3192 QQ (F0 m 668 ls []) := by
                intro w hO H locs hP hD hS ls hl
                refine lv_iload_n hx hb dL_hands_668 rfl (lv_at hl 1 rfl) ?_
                have J784_27 : ∀  (w : va_W) (hO : OB y h T z [] (some z) s1 w) (H : Heap) (locs : List Loc) (hP : va_P G vwCl w H) (hD : va_D A w) (hS : va_S A s.heap H locs) (ls : Array Slot) (hl : lv_has ls 23 [(9, .int 1), (2, .int (qAbout 13 z)), (0, .ref h), (1, .int x)]), W p l e (headSpec wsL_hands rmL_hands).room s m ([.ref h, .int x] : List Value).toArray below meth c H locs 783 4698 QQ (F0 m 784 ls []) := by
                  intro w hO H locs hP hD hS ls hl
                  refine lv_iconst (v := 1) hx hb dL_hands_784 (by decide) ?_
                  refine lv_iload_n hx hb dL_hands_785 rfl (lv_at hl 3 rfl) ?_
                  refine lv_bipush (v := 8) hx hb dL_hands_786 (by decide) ?_
                  refine lv_idiv hx hb dL_hands_788 (by decide) ?_
                  refine lv_bipush (v := 20) hx hb dL_hands_789 (by decide) ?_
                  refine lv_irem hx hb dL_hands_791 (by decide) ?_
                  refine lv_iadd hx hb dL_hands_792 ?_
                  refine lv_istore (lv' := [(15, .int (1 + ((x / 8) - (x / 8) / 20 * 20))), (9, .int 1), (2, .int (qAbout 13 z)), (0, .ref h), (1, .int x)]) hx hb dL_hands_793 hl (by decide) rfl (fun ls hl => ?_)
                  refine lv_aload_n hx hb dL_hands_795 rfl (lv_at hl 3 rfl) ?_
                  refine lv_iload hx hb dL_hands_796 (lv_at hl 0 rfl) ?_
                  refine cl_O (Φ := (fun w9 => OB y h T z [] (some z) s1 w9)) (vx_runSX (As := [.ref h, .int (1 + ((x / 8) - (x / 8) / 20 * 20))]) (rest := []) ⟨hx, hb, hml, hown, hts⟩ (w_toleranceFor l G y h (1 + ((x / 8) - (x / 8) / 20 * 20)) w T z [] (some z) s1 H.size hO hz  hfl) (vx_cwSW 2 hts gL_hands_L_tryToleranceFor rfl rfl rfl (by decide +kernel) ⟨Nat.le_of_ble_eq_true rfl, Nat.le_of_ble_eq_true rfl⟩) (PHZ_S hP hK hN hD hTY hS (F_0 hD hS hA)) rfl rfl hl.1 rfl (lv_room (Nat.le_of_ble_eq_true rfl)) dL_hands_798 ⟨Nat.le_of_ble_eq_true rfl, Nat.le_of_ble_eq_true rfl⟩) hD hS hA (fun w H locs hO hP hD hS => ?_)
                  refine lv_istore (lv' := [(16, .int (qTol (1 + ((x / 8) - (x / 8) / 20 * 20)) z)), (15, .int (1 + ((x / 8) - (x / 8) / 20 * 20))), (9, .int 1), (2, .int (qAbout 13 z)), (0, .ref h), (1, .int x)]) hx hb dL_hands_801 hl (by decide) rfl (fun ls hl => ?_)
                  refine lv_iload hx hb dL_hands_803 (lv_at hl 2 rfl) ?_
                  refine lv_if_eq (tgt := 910) hx hb dL_hands_805 (by decide) (fun c_28 => (by first | exact absurd c_28 (by decide : ¬ ((1 : Int32) = 0)) | exact absurd (by decide : ¬ ((1 : Int32) = 0)) c_28)) (fun _ => ?_)
                  refine lv_iload hx hb dL_hands_808 (lv_at hl 0 rfl) ?_
                  refine lv_ldc (v := (-99999)) hx hb hown (hts (.constant RL 119 (-99999)) (by decide +kernel)) dL_hands_810 ?_
                  have J911_30 : ∀  (w : va_W) (hO : OB y h T z [] (some z) s1 w) (H : Heap) (locs : List Loc) (hP : va_P G vwCl w H) (hD : va_D A w) (hS : va_S A s.heap H locs) (ls : Array Slot) (hl : lv_has ls 23 [(2, .int (qAbout 13 z)), (0, .ref h), (1, .int x)]), W p l e (headSpec wsL_hands rmL_hands).room s m ([.ref h, .int x] : List Value).toArray below meth c H locs 789 4734 QQ (F0 m 911 ls [.int 1]) := by
                    intro w hO H locs hP hD hS ls hl
                    refine lv_istore (lv' := [(9, .int 1), (2, .int (qAbout 13 z)), (0, .ref h), (1, .int x)]) hx hb dL_hands_911 hl (by decide) rfl (fun ls hl => ?_)
                    refine lv_iload_n hx hb dL_hands_913 rfl (lv_at hl 3 rfl) ?_
                    refine lv_bipush (v := 16) hx hb dL_hands_914 (by decide) ?_
                    refine lv_idiv hx hb dL_hands_916 (by decide) ?_
                    refine lv_bipush (v := 100) hx hb dL_hands_917 (by decide) ?_
                    refine lv_irem hx hb dL_hands_919 (by decide) ?_
                    refine lv_istore (lv' := [(17, .int ((x / 16) - (x / 16) / 100 * 100)), (9, .int 1), (2, .int (qAbout 13 z)), (0, .ref h), (1, .int x)]) hx hb dL_hands_920 hl (by decide) rfl (fun ls hl => ?_)
                    refine lv_aload_n hx hb dL_hands_922 rfl (lv_at hl 3 rfl) ?_
                    refine lv_iload hx hb dL_hands_923 (lv_at hl 0 rfl) ?_
                    refine cl_O (Φ := (fun w9 => OB y h T z [] (some z) s1 w9)) (vx_runSX (As := [.ref h, .int ((x / 16) - (x / 16) / 100 * 100)]) (rest := []) ⟨hx, hb, hml, hown, hts⟩ (w_settlesAfter l G y h ((x / 16) - (x / 16) / 100 * 100) w T z [] (some z) s1 H.size hO hz  hfl) (vx_cwSW 2 hts gL_hands_L_trySettlesAfter rfl rfl rfl (by decide +kernel) ⟨Nat.le_of_ble_eq_true rfl, Nat.le_of_ble_eq_true rfl⟩) (PHZ_S hP hK hN hD hTY hS (F_0 hD hS hA)) rfl rfl hl.1 rfl (lv_room (Nat.le_of_ble_eq_true rfl)) dL_hands_925 ⟨Nat.le_of_ble_eq_true rfl, Nat.le_of_ble_eq_true rfl⟩) hD hS hA (fun w H locs hO hP hD hS => ?_)
                    refine lv_istore (lv' := [(18, .int (qSettle ((x / 16) - (x / 16) / 100 * 100) z)), (17, .int ((x / 16) - (x / 16) / 100 * 100)), (9, .int 1), (2, .int (qAbout 13 z)), (0, .ref h), (1, .int x)]) hx hb dL_hands_928 hl (by decide) rfl (fun ls hl => ?_)
                    refine lv_aload_n hx hb dL_hands_930 rfl (lv_at hl 4 rfl) ?_
                    refine lv_iconst (v := 5) hx hb dL_hands_931 (by decide) ?_
                    refine cl_O (Φ := (fun w9 => OB y h T z [] (some z) s1 w9)) (vx_runSX (As := [.ref h, .int 5]) (rest := []) ⟨hx, hb, hml, hown, hts⟩ (w_about l G y h 5 w T z [] (some z) s1 H.size hO hz  hfl) (vx_cwSW 2 hts gL_hands_L_tryAbout rfl rfl rfl (by decide +kernel) ⟨Nat.le_of_ble_eq_true rfl, Nat.le_of_ble_eq_true rfl⟩) (PHZ_S hP hK hN hD hTY hS (F_0 hD hS hA)) rfl rfl hl.1 rfl (lv_room (Nat.le_of_ble_eq_true rfl)) dL_hands_932 ⟨Nat.le_of_ble_eq_true rfl, Nat.le_of_ble_eq_true rfl⟩) hD hS hA (fun w H locs hO hP hD hS => ?_)
                    refine lv_istore (lv' := [(19, .int (qAbout 5 z)), (18, .int (qSettle ((x / 16) - (x / 16) / 100 * 100) z)), (17, .int ((x / 16) - (x / 16) / 100 * 100)), (9, .int 1), (2, .int (qAbout 13 z)), (0, .ref h), (1, .int x)]) hx hb dL_hands_935 hl (by decide) rfl (fun ls hl => ?_)
                    refine lv_iload hx hb dL_hands_937 (lv_at hl 3 rfl) ?_
                    refine lv_if_eq (tgt := 1026) hx hb dL_hands_939 (by decide) (fun c_31 => (by first | exact absurd c_31 (by decide : ¬ ((1 : Int32) = 0)) | exact absurd (by decide : ¬ ((1 : Int32) = 0)) c_31)) (fun _ => ?_)
                    refine lv_iload hx hb dL_hands_942 (lv_at hl 1 rfl) ?_
                    refine lv_sipush (v := 201) hx hb dL_hands_944 (by decide) ?_
                    refine lv_icmp_eq (tgt := 1026) hx hb dL_hands_947 (by decide) (fun c9 => absurd c9 f_947) (fun _ => ?_)
                    refine lv_iload hx hb dL_hands_950 (lv_at hl 1 rfl) ?_
                    refine lv_ldc (v := (-99999)) hx hb hown (hts (.constant RL 119 (-99999)) (by decide +kernel)) dL_hands_952 ?_
                    have J1022_34 : ∀  (w : va_W) (hO : OB y h T z [] (some z) s1 w) (H : Heap) (locs : List Loc) (hP : va_P G vwCl w H) (hD : va_D A w) (hS : va_S A s.heap H locs) (ls : Array Slot) (hl : lv_has ls 23 [(2, .int (qAbout 13 z)), (0, .ref h), (1, .int x)]), W p l e (headSpec wsL_hands rmL_hands).room s m ([.ref h, .int x] : List Value).toArray below meth c H locs 793 4758 QQ (F0 m 1022 ls []) := by
                      intro w hO H locs hP hD hS ls hl
                      refine lv_iconst (v := 1) hx hb dL_hands_1022 (by decide) ?_
                      refine lv_goto (tgt := 1027) hx hb dL_hands_1023 (by decide) ?_
                      refine lv_istore (lv' := [(9, .int 1), (2, .int (qAbout 13 z)), (0, .ref h), (1, .int x)]) hx hb dL_hands_1027 hl (by decide) rfl (fun ls hl => ?_)
                      refine lv_iload_n hx hb dL_hands_1029 rfl (lv_at hl 3 rfl) ?_
                      refine lv_bipush (v := 32) hx hb dL_hands_1030 (by decide) ?_
                      refine lv_idiv hx hb dL_hands_1032 (by decide) ?_
                      refine lv_sipush (v := 201) hx hb dL_hands_1033 (by decide) ?_
                      refine lv_irem hx hb dL_hands_1036 (by decide) ?_
                      refine lv_bipush (v := 100) hx hb dL_hands_1037 (by decide) ?_
                      refine lv_isub hx hb dL_hands_1039 ?_
                      refine lv_istore (lv' := [(20, .int (((x / 32) - (x / 32) / 201 * 201) - 100)), (9, .int 1), (2, .int (qAbout 13 z)), (0, .ref h), (1, .int x)]) hx hb dL_hands_1040 hl (by decide) rfl (fun ls hl => ?_)
                      refine lv_aload_n hx hb dL_hands_1042 rfl (lv_at hl 3 rfl) ?_
                      refine lv_bipush (v := 12) hx hb dL_hands_1043 (by decide) ?_
                      refine cl_O (Φ := (fun w9 => OB y h T z [] (some z) s1 w9)) (vx_runSX (As := [.ref h, .int 12]) (rest := []) ⟨hx, hb, hml, hown, hts⟩ (w_about l G y h 12 w T z [] (some z) s1 H.size hO hz  hfl) (vx_cwSW 2 hts gL_hands_L_tryAbout rfl rfl rfl (by decide +kernel) ⟨Nat.le_of_ble_eq_true rfl, Nat.le_of_ble_eq_true rfl⟩) (PHZ_S hP hK hN hD hTY hS (F_0 hD hS hA)) rfl rfl hl.1 rfl (lv_room (Nat.le_of_ble_eq_true rfl)) dL_hands_1045 ⟨Nat.le_of_ble_eq_true rfl, Nat.le_of_ble_eq_true rfl⟩) hD hS hA (fun w H locs hO hP hD hS => ?_)
                      refine lv_istore (lv' := [(21, .int (qAbout 12 z)), (20, .int (((x / 32) - (x / 32) / 201 * 201) - 100)), (9, .int 1), (2, .int (qAbout 13 z)), (0, .ref h), (1, .int x)]) hx hb dL_hands_1048 hl (by decide) rfl (fun ls hl => ?_)
                      refine lv_aload_n hx hb dL_hands_1050 rfl (lv_at hl 4 rfl) ?_
                      refine lv_bipush (v := 6) hx hb dL_hands_1051 (by decide) ?_
                      refine cl_O (Φ := (fun w9 => OB y h T z [] (some z) s1 w9)) (vx_runSX (As := [.ref h, .int 6]) (rest := []) ⟨hx, hb, hml, hown, hts⟩ (w_account l G y h 6 w T z [] (some z) s1 H.size hO hz  hfl) (vx_cwSW 2 hts gL_hands_L_tryAccount rfl rfl rfl (by decide +kernel) ⟨Nat.le_of_ble_eq_true rfl, Nat.le_of_ble_eq_true rfl⟩) (PHZ_S hP hK hN hD hTY hS (F_0 hD hS hA)) rfl rfl hl.1 rfl (lv_room (Nat.le_of_ble_eq_true rfl)) dL_hands_1053 ⟨Nat.le_of_ble_eq_true rfl, Nat.le_of_ble_eq_true rfl⟩) hD hS hA (fun w H locs hO hP hD hS => ?_)
                      refine lv_istore (lv' := [(22, .int (qAcc 6 z)), (21, .int (qAbout 12 z)), (20, .int (((x / 32) - (x / 32) / 201 * 201) - 100)), (9, .int 1), (2, .int (qAbout 13 z)), (0, .ref h), (1, .int x)]) hx hb dL_hands_1056 hl (by decide) rfl (fun ls hl => ?_)
                      refine lv_iload hx hb dL_hands_1058 (lv_at hl 3 rfl) ?_
                      refine lv_if_eq (tgt := 1113) hx hb dL_hands_1060 (by decide) (fun c_35 => (by first | exact absurd c_35 (by decide : ¬ ((1 : Int32) = 0)) | exact absurd (by decide : ¬ ((1 : Int32) = 0)) c_35)) (fun _ => ?_)
                      refine lv_aload_n hx hb dL_hands_1063 rfl (lv_at hl 5 rfl) ?_
                      refine lv_iload hx hb dL_hands_1064 (lv_at hl 2 rfl) ?_
                      refine cl_O (Φ := (fun w9 => (s_X11_disturb_k (((x / 32) - (x / 32) / 201 * 201) - 100) = 0 ∧ OB y h T (s_X11_disturb_z (((x / 32) - (x / 32) / 201 * 201) - 100) z) (hpu z []) (some z) s1 w9) ∨ (¬ s_X11_disturb_k (((x / 32) - (x / 32) / 201 * 201) - 100) = 0 ∧ OB y h T z [] (some z) s1 w9))) (vx_runSX (As := [.ref h, .int (((x / 32) - (x / 32) / 201 * 201) - 100)]) (rest := []) ⟨hx, hb, hml, hown, hts⟩ (w_disturb l G y h (((x / 32) - (x / 32) / 201 * 201) - 100) w T z [] (some z) s1 H.size hO hz  hfl) (vx_cwSW 2 hts gL_hands_L_tryDisturb rfl rfl rfl (by decide +kernel) ⟨Nat.le_of_ble_eq_true rfl, Nat.le_of_ble_eq_true rfl⟩) (PHZ_S hP hK hN hD hTY hS (F_0 hD hS hA)) rfl rfl hl.1 rfl (lv_room (Nat.le_of_ble_eq_true rfl)) dL_hands_1066 ⟨Nat.le_of_ble_eq_true rfl, Nat.le_of_ble_eq_true rfl⟩) hD hS hA (fun w H locs hO hP hD hS => ?_)
                      have hO : OB y h T (s_X11_disturb_z (((x / 32) - (x / 32) / 201 * 201) - 100) z) (hpu z []) (some z) s1 w := oy k_1066 hO
                      have hz : TS (s_X11_disturb_z (((x / 32) - (x / 32) / 201 * 201) - 100) z) := t_1066
                      refine lv_iload hx hb dL_hands_1069 (lv_at hl 1 rfl) ?_
                      refine lv_iload hx hb dL_hands_1071 (lv_at hl 2 rfl) ?_
                      refine lv_iadd hx hb dL_hands_1073 ?_
                      refine lv_icmp_ne (tgt := 1113) hx hb dL_hands_1074 (by decide) (fun c9 => absurd f_1074 c9) (fun _ => ?_)
                      refine lv_aload_n hx hb dL_hands_1077 rfl (lv_at hl 5 rfl) ?_
                      refine lv_bipush (v := 6) hx hb dL_hands_1078 (by decide) ?_
                      refine cl_O (Φ := (fun w9 => OB y h T (s_X11_disturb_z (((x / 32) - (x / 32) / 201 * 201) - 100) z) (hpu z []) (some z) s1 w9)) (vx_runSX (As := [.ref h, .int 6]) (rest := []) ⟨hx, hb, hml, hown, hts⟩ (w_account l G y h 6 w T (s_X11_disturb_z (((x / 32) - (x / 32) / 201 * 201) - 100) z) (hpu z []) (some z) s1 H.size hO hz  hfl) (vx_cwSW 2 hts gL_hands_L_tryAccount rfl rfl rfl (by decide +kernel) ⟨Nat.le_of_ble_eq_true rfl, Nat.le_of_ble_eq_true rfl⟩) (PHZ_S hP hK hN hD hTY hS (F_0 hD hS hA)) rfl rfl hl.1 rfl (lv_room (Nat.le_of_ble_eq_true rfl)) dL_hands_1080 ⟨Nat.le_of_ble_eq_true rfl, Nat.le_of_ble_eq_true rfl⟩) hD hS hA (fun w H locs hO hP hD hS => ?_)
                      refine lv_iload hx hb dL_hands_1083 (lv_at hl 0 rfl) ?_
                      refine lv_iconst (v := 1) hx hb dL_hands_1085 (by decide) ?_
                      refine lv_iadd hx hb dL_hands_1086 ?_
                      refine lv_icmp_ne (tgt := 1113) hx hb dL_hands_1087 (by decide) (fun c9 => absurd f_1087 c9) (fun _ => ?_)
                      refine lv_aload_n hx hb dL_hands_1090 rfl (lv_at hl 5 rfl) ?_
                      refine lv_bipush (v := 13) hx hb dL_hands_1091 (by decide) ?_
                      refine cl_O (Φ := (fun w9 => OB y h T (s_X11_disturb_z (((x / 32) - (x / 32) / 201 * 201) - 100) z) (hpu z []) (some z) s1 w9)) (vx_runSX (As := [.ref h, .int 13]) (rest := []) ⟨hx, hb, hml, hown, hts⟩ (w_about l G y h 13 w T (s_X11_disturb_z (((x / 32) - (x / 32) / 201 * 201) - 100) z) (hpu z []) (some z) s1 H.size hO hz  hfl) (vx_cwSW 2 hts gL_hands_L_tryAbout rfl rfl rfl (by decide +kernel) ⟨Nat.le_of_ble_eq_true rfl, Nat.le_of_ble_eq_true rfl⟩) (PHZ_S hP hK hN hD hTY hS (F_0 hD hS hA)) rfl rfl hl.1 rfl (lv_room (Nat.le_of_ble_eq_true rfl)) dL_hands_1093 ⟨Nat.le_of_ble_eq_true rfl, Nat.le_of_ble_eq_true rfl⟩) hD hS hA (fun w H locs hO hP hD hS => ?_)
                      refine lv_iload_n hx hb dL_hands_1096 rfl (lv_at hl 4 rfl) ?_
                      refine lv_icmp_ne (tgt := 1113) hx hb dL_hands_1097 (by decide) (fun c9 => absurd f_1097 c9) (fun _ => ?_)
                      refine lv_aload_n hx hb dL_hands_1100 rfl (lv_at hl 5 rfl) ?_
                      refine lv_iconst (v := 0) hx hb dL_hands_1101 (by decide) ?_
                      refine cl_O (Φ := (fun w9 => (kRes 0 (some z) s1 = 0 ∧ OB y h T z [] (some z) s1 w9) ∨ (¬ kRes 0 (some z) s1 = 0 ∧ OB y h T (s_X11_disturb_z (((x / 32) - (x / 32) / 201 * 201) - 100) z) (hpu z []) (some z) s1 w9))) (vx_runSX (As := [.ref h, .int 0]) (rest := []) ⟨hx, hb, hml, hown, hts⟩ (w_restore l G y h 0 w T (s_X11_disturb_z (((x / 32) - (x / 32) / 201 * 201) - 100) z) (hpu z []) (some z) s1 H.size hO hz  hfl) (vx_cwSW 2 hts gL_hands_L_tryRestore rfl rfl rfl (by decide +kernel) ⟨Nat.le_of_ble_eq_true rfl, Nat.le_of_ble_eq_true rfl⟩) (PHZ_S hP hK hN hD hTY hS (F_0 hD hS hA)) rfl rfl hl.1 rfl (lv_room (Nat.le_of_ble_eq_true rfl)) dL_hands_1102 ⟨Nat.le_of_ble_eq_true rfl, Nat.le_of_ble_eq_true rfl⟩) hD hS hA (fun w H locs hO hP hD hS => ?_)
                      have hO : OB y h T z [] (some z) s1 w := oy k_1102 hO
                      have hz : TS z := t_1102
                      refine lv_iload_n hx hb dL_hands_1105 rfl (lv_at hl 4 rfl) ?_
                      refine lv_icmp_ne (tgt := 1113) hx hb dL_hands_1106 (by decide) (fun c9 => absurd f_1106 c9) (fun _ => ?_)
                      refine lv_iconst (v := 1) hx hb dL_hands_1109 (by decide) ?_
                      refine lv_goto (tgt := 1114) hx hb dL_hands_1110 (by decide) ?_
                      refine lv_istore (lv' := [(9, .int 1), (22, .int (qAcc 6 z)), (21, .int (qAbout 12 z)), (20, .int (((x / 32) - (x / 32) / 201 * 201) - 100)), (2, .int (qAbout 13 z)), (0, .ref h), (1, .int x)]) hx hb dL_hands_1114 hl (by decide) rfl (fun ls hl => ?_)
                      refine lv_iload hx hb dL_hands_1116 (lv_at hl 0 rfl) ?_
                      refine lv_if_eq (tgt := 1150) hx hb dL_hands_1118 (by decide) (fun c_40 => (by first | exact absurd c_40 (by decide : ¬ ((1 : Int32) = 0)) | exact absurd (by decide : ¬ ((1 : Int32) = 0)) c_40)) (fun _ => ?_)
                      refine lv_aload_n hx hb dL_hands_1121 rfl (lv_at hl 5 rfl) ?_
                      refine cl_OM (Φ := (fun w9 => ∃ (z_41 : Zs) (Hs_42 : List Zs), OB y h T z_41 Hs_42 (some z) s1 w9 ∧ TS z_41)) (va_runS (As := [.ref h]) (rest := []) ⟨hx, hb, hml, hown, hts⟩ (c_L_steps l G y h w T z [] (some z) s1 H.size hO hz m_1122 hfl) (va_cwS 1 hts gL_hands_L_steps rfl rfl rfl (by decide +kernel) ⟨Nat.le_of_ble_eq_true rfl, Nat.le_of_ble_eq_true rfl⟩) (PHZ_S hP hK hN hD hTY hS (F_0 hD hS hA)) rfl rfl hl.1 rfl (lv_room (Nat.le_of_ble_eq_true rfl)) dL_hands_1122 ⟨Nat.le_of_ble_eq_true rfl, Nat.le_of_ble_eq_true rfl⟩) hD hS hA (fun w H locs hO hP hD hS => ?_)
                      obtain ⟨z_41, Hs_42, hO, hEx⟩ := hO
                      have hz : TS z_41 := hEx
                      refine lv_if_eq (tgt := 1150) hx hb dL_hands_1125 (by decide) (fun c_43 => (by first | exact absurd c_43 (by decide : ¬ ((1 : Int32) = 0)) | exact absurd (by decide : ¬ ((1 : Int32) = 0)) c_43)) (fun _ => ?_)
                      refine lv_aload_n hx hb dL_hands_1128 rfl (lv_at hl 5 rfl) ?_
                      refine lv_iconst (v := 0) hx hb dL_hands_1129 (by decide) ?_
                      refine cl_O (Φ := (fun w9 => (kRes 0 (some z) s1 = 0 ∧ OB y h T z [] (some z) s1 w9) ∨ (¬ kRes 0 (some z) s1 = 0 ∧ OB y h T z_41 Hs_42 (some z) s1 w9))) (vx_runSX (As := [.ref h, .int 0]) (rest := []) ⟨hx, hb, hml, hown, hts⟩ (w_restore l G y h 0 w T z_41 Hs_42 (some z) s1 H.size hO hz  hfl) (vx_cwSW 2 hts gL_hands_L_tryRestore rfl rfl rfl (by decide +kernel) ⟨Nat.le_of_ble_eq_true rfl, Nat.le_of_ble_eq_true rfl⟩) (PHZ_S hP hK hN hD hTY hS (F_0 hD hS hA)) rfl rfl hl.1 rfl (lv_room (Nat.le_of_ble_eq_true rfl)) dL_hands_1130 ⟨Nat.le_of_ble_eq_true rfl, Nat.le_of_ble_eq_true rfl⟩) hD hS hA (fun w H locs hO hP hD hS => ?_)
                      have hO : OB y h T z [] (some z) s1 w := oy (k_1130 z_41 Hs_42) hO
                      have hz : TS z := (t_1130 z_41 Hs_42)
                      refine lv_iload_n hx hb dL_hands_1133 rfl (lv_at hl 4 rfl) ?_
                      refine lv_icmp_ne (tgt := 1150) hx hb dL_hands_1134 (by decide) (fun c9 => absurd (f_1134 z_41 Hs_42) c9) (fun _ => ?_)
                      refine lv_aload_n hx hb dL_hands_1137 rfl (lv_at hl 5 rfl) ?_
                      refine cl_O (Φ := (fun w9 => (kUnd [] = 0 ∧ OB y h T ([].getD 0 zI) ([].tail) (some z) s1 w9) ∨ (¬ kUnd [] = 0 ∧ OB y h T z [] (some z) s1 w9))) (vx_runSX (As := [.ref h]) (rest := []) ⟨hx, hb, hml, hown, hts⟩ (w_undo l G y h w T z [] (some z) s1 H.size hO hz  hfl) (vx_cwSW 1 hts gL_hands_L_tryUndo rfl rfl rfl (by decide +kernel) ⟨Nat.le_of_ble_eq_true rfl, Nat.le_of_ble_eq_true rfl⟩) (PHZ_S hP hK hN hD hTY hS (F_0 hD hS hA)) rfl rfl hl.1 rfl (lv_room (Nat.le_of_ble_eq_true rfl)) dL_hands_1138 ⟨Nat.le_of_ble_eq_true rfl, Nat.le_of_ble_eq_true rfl⟩) hD hS hA (fun w H locs hO hP hD hS => ?_)
                      have hO : OB y h T z [] (some z) s1 w := on (k_1138 z_41 Hs_42) hO
                      refine lv_ldc (v := (-999003)) hx hb hown (hts (.constant RL 18 (-999003)) (by decide +kernel)) dL_hands_1141 ?_
                      refine lv_icmp_ne (tgt := 1150) hx hb dL_hands_1143 (by decide) (fun c9 => absurd (f_1143 z_41 Hs_42) c9) (fun _ => ?_)
                      refine lv_iconst (v := 1) hx hb dL_hands_1146 (by decide) ?_
                      refine lv_goto (tgt := 1151) hx hb dL_hands_1147 (by decide) ?_
                      rw [hQQ]
                      refine W.widen (k := 926) (n := 5556) (by omega) (by omega) ?_
                      exact W.zret hx hb hr (nz_bool (Or.inr rfl)) (end_O hO hP hD hS rfl) hS.2.2 dL_hands_1151
                    refine lv_icmp_ne (tgt := 979) hx hb dL_hands_954 (by decide) (fun c_33 => ?_) (fun c_33 => ?_)
                    · refine lv_aload_n hx hb dL_hands_979 rfl (lv_at hl 5 rfl) ?_
                      refine lv_iload hx hb dL_hands_980 (lv_at hl 1 rfl) ?_
                      refine lv_iconst (v := 0) hx hb dL_hands_982 (by decide) ?_
                      refine cl_O (Φ := (fun w9 => OB y h T z [] (some z) s1 w9)) (vx_runSX (As := [.ref h, .int (qSettle ((x / 16) - (x / 16) / 100 * 100) z), .int 0]) (rest := []) ⟨hx, hb, hml, hown, hts⟩ (w_ahead l G y h (qSettle ((x / 16) - (x / 16) / 100 * 100) z) 0 w T z [] (some z) s1 H.size hO hz  hfl) (vx_cwSW 3 hts gL_hands_L_tryAhead rfl rfl rfl (by decide +kernel) ⟨Nat.le_of_ble_eq_true rfl, Nat.le_of_ble_eq_true rfl⟩) (PHZ_S hP hK hN hD hTY hS (F_0 hD hS hA)) rfl rfl hl.1 rfl (lv_room (Nat.le_of_ble_eq_true rfl)) dL_hands_983 ⟨Nat.le_of_ble_eq_true rfl, Nat.le_of_ble_eq_true rfl⟩) hD hS hA (fun w H locs hO hP hD hS => ?_)
                      refine lv_iload hx hb dL_hands_986 (lv_at hl 0 rfl) ?_
                      refine lv_isub hx hb dL_hands_988 ?_
                      refine cl_Ri (va_runS (As := [.int ((qAhead (qSettle ((x / 16) - (x / 16) / 100 * 100) z) 0 z) - (qAbout 5 z))]) (rest := []) ⟨hx, hb, hml, hown, hts⟩ (c_L_size l G y ((qAhead (qSettle ((x / 16) - (x / 16) / 100 * 100) z) 0 z) - (qAbout 5 z))) (va_cwS 1 hts gL_hands_L_size rfl rfl rfl (by decide +kernel) ⟨Nat.le_of_ble_eq_true rfl, Nat.le_of_ble_eq_true rfl⟩) (PR_S pnil hK hN) rfl rfl hl.1 rfl (lv_room (Nat.le_of_ble_eq_true rfl)) dL_hands_989 ⟨Nat.le_of_ble_eq_true rfl, Nat.le_of_ble_eq_true rfl⟩) ?_
                      refine lv_iload hx hb dL_hands_992 (lv_at hl 2 rfl) ?_
                      refine lv_icmp_gt (tgt := 1026) hx hb dL_hands_994 (by decide) (fun c9 => absurd c9 (f_994 c_33)) (fun _ => ?_)
                      refine lv_iload hx hb dL_hands_997 (lv_at hl 1 rfl) ?_
                      refine lv_if_eq (tgt := 1022) hx hb dL_hands_999 (by decide) (fun c_47 => ?_) (fun c_47 => ?_)
                      · refine W.widen (k := 793) (n := 4758) (by omega) (by omega) ?_
                        exact J1022_34 w hO H locs hP hD hS ls (lv_sub hl [4, 5, 6] rfl)
                      · refine lv_aload_n hx hb dL_hands_1002 rfl (lv_at hl 5 rfl) ?_
                        refine lv_iload hx hb dL_hands_1003 (lv_at hl 1 rfl) ?_
                        refine lv_iconst (v := 1) hx hb dL_hands_1005 (by decide) ?_
                        refine lv_isub hx hb dL_hands_1006 ?_
                        refine lv_iconst (v := 0) hx hb dL_hands_1007 (by decide) ?_
                        refine cl_O (Φ := (fun w9 => OB y h T z [] (some z) s1 w9)) (vx_runSX (As := [.ref h, .int ((qSettle ((x / 16) - (x / 16) / 100 * 100) z) - 1), .int 0]) (rest := []) ⟨hx, hb, hml, hown, hts⟩ (w_ahead l G y h ((qSettle ((x / 16) - (x / 16) / 100 * 100) z) - 1) 0 w T z [] (some z) s1 H.size hO hz  hfl) (vx_cwSW 3 hts gL_hands_L_tryAhead rfl rfl rfl (by decide +kernel) ⟨Nat.le_of_ble_eq_true rfl, Nat.le_of_ble_eq_true rfl⟩) (PHZ_S hP hK hN hD hTY hS (F_0 hD hS hA)) rfl rfl hl.1 rfl (lv_room (Nat.le_of_ble_eq_true rfl)) dL_hands_1008 ⟨Nat.le_of_ble_eq_true rfl, Nat.le_of_ble_eq_true rfl⟩) hD hS hA (fun w H locs hO hP hD hS => ?_)
                        refine lv_iload hx hb dL_hands_1011 (lv_at hl 0 rfl) ?_
                        refine lv_isub hx hb dL_hands_1013 ?_
                        refine cl_Ri (va_runS (As := [.int ((qAhead ((qSettle ((x / 16) - (x / 16) / 100 * 100) z) - 1) 0 z) - (qAbout 5 z))]) (rest := []) ⟨hx, hb, hml, hown, hts⟩ (c_L_size l G y ((qAhead ((qSettle ((x / 16) - (x / 16) / 100 * 100) z) - 1) 0 z) - (qAbout 5 z))) (va_cwS 1 hts gL_hands_L_size rfl rfl rfl (by decide +kernel) ⟨Nat.le_of_ble_eq_true rfl, Nat.le_of_ble_eq_true rfl⟩) (PR_S pnil hK hN) rfl rfl hl.1 rfl (lv_room (Nat.le_of_ble_eq_true rfl)) dL_hands_1014 ⟨Nat.le_of_ble_eq_true rfl, Nat.le_of_ble_eq_true rfl⟩) ?_
                        refine lv_iload hx hb dL_hands_1017 (lv_at hl 2 rfl) ?_
                        refine lv_icmp_le (tgt := 1026) hx hb dL_hands_1019 (by decide) (fun c9 => absurd c9 (f_1019 c_33 c_47)) (fun _ => ?_)
                        exact J1022_34 w hO H locs hP hD hS ls (lv_sub hl [4, 5, 6] rfl)
                    · refine lv_aload_n hx hb dL_hands_957 rfl (lv_at hl 5 rfl) ?_
                      refine lv_sipush (v := 200) hx hb dL_hands_958 (by decide) ?_
                      refine lv_iconst (v := 0) hx hb dL_hands_961 (by decide) ?_
                      refine cl_O (Φ := (fun w9 => OB y h T z [] (some z) s1 w9)) (vx_runSX (As := [.ref h, .int 200, .int 0]) (rest := []) ⟨hx, hb, hml, hown, hts⟩ (w_ahead l G y h 200 0 w T z [] (some z) s1 H.size hO hz  hfl) (vx_cwSW 3 hts gL_hands_L_tryAhead rfl rfl rfl (by decide +kernel) ⟨Nat.le_of_ble_eq_true rfl, Nat.le_of_ble_eq_true rfl⟩) (PHZ_S hP hK hN hD hTY hS (F_0 hD hS hA)) rfl rfl hl.1 rfl (lv_room (Nat.le_of_ble_eq_true rfl)) dL_hands_962 ⟨Nat.le_of_ble_eq_true rfl, Nat.le_of_ble_eq_true rfl⟩) hD hS hA (fun w H locs hO hP hD hS => ?_)
                      refine lv_iload hx hb dL_hands_965 (lv_at hl 0 rfl) ?_
                      refine lv_isub hx hb dL_hands_967 ?_
                      refine cl_Ri (va_runS (As := [.int ((qAhead 200 0 z) - (qAbout 5 z))]) (rest := []) ⟨hx, hb, hml, hown, hts⟩ (c_L_size l G y ((qAhead 200 0 z) - (qAbout 5 z))) (va_cwS 1 hts gL_hands_L_size rfl rfl rfl (by decide +kernel) ⟨Nat.le_of_ble_eq_true rfl, Nat.le_of_ble_eq_true rfl⟩) (PR_S pnil hK hN) rfl rfl hl.1 rfl (lv_room (Nat.le_of_ble_eq_true rfl)) dL_hands_968 ⟨Nat.le_of_ble_eq_true rfl, Nat.le_of_ble_eq_true rfl⟩) ?_
                      refine lv_iload hx hb dL_hands_971 (lv_at hl 2 rfl) ?_
                      refine lv_icmp_le (tgt := 1026) hx hb dL_hands_973 (by decide) (fun c9 => absurd c9 (f_973 c_33)) (fun _ => ?_)
                      refine lv_goto (tgt := 1022) hx hb dL_hands_976 (by decide) ?_
                      refine W.widen (k := 793) (n := 4758) (by omega) (by omega) ?_
                      exact J1022_34 w hO H locs hP hD hS ls (lv_sub hl [4, 5, 6] rfl)
                  refine lv_icmp_ne (tgt := 837) hx hb dL_hands_812 (by decide) (fun c_29 => ?_) (fun c_29 => ?_)
                  · refine lv_iload hx hb dL_hands_837 (lv_at hl 0 rfl) ?_
                    refine lv_ldc (v := (-99999)) hx hb hown (hts (.constant RL 119 (-99999)) (by decide +kernel)) dL_hands_839 ?_
                    refine lv_icmp_eq (tgt := 897) hx hb dL_hands_841 (by decide) (fun c_50 => (by first | exact absurd c_50 c_29 | exact absurd c_29 c_50)) (fun _ => ?_)
                    refine lv_aload_n hx hb dL_hands_844 rfl (lv_at hl 4 rfl) ?_
                    refine lv_bipush (v := 7) hx hb dL_hands_845 (by decide) ?_
                    refine lv_iload hx hb dL_hands_847 (lv_at hl 0 rfl) ?_
                    refine cl_O (Φ := (fun w9 => (s_X11_set_k 7 (qTol (1 + ((x / 8) - (x / 8) / 20 * 20)) z) = 0 ∧ OB y h T (s_X11_set_z 7 (qTol (1 + ((x / 8) - (x / 8) / 20 * 20)) z) z) (hpu z []) (some z) s1 w9) ∨ (¬ s_X11_set_k 7 (qTol (1 + ((x / 8) - (x / 8) / 20 * 20)) z) = 0 ∧ OB y h T z [] (some z) s1 w9))) (vx_runSX (As := [.ref h, .int 7, .int (qTol (1 + ((x / 8) - (x / 8) / 20 * 20)) z)]) (rest := []) ⟨hx, hb, hml, hown, hts⟩ (w_set l G y h 7 (qTol (1 + ((x / 8) - (x / 8) / 20 * 20)) z) w T z [] (some z) s1 H.size hO hz  hfl) (vx_cwSW 3 hts gL_hands_L_trySet rfl rfl rfl (by decide +kernel) ⟨Nat.le_of_ble_eq_true rfl, Nat.le_of_ble_eq_true rfl⟩) (PHZ_S hP hK hN hD hTY hS (F_0 hD hS hA)) rfl rfl hl.1 rfl (lv_room (Nat.le_of_ble_eq_true rfl)) dL_hands_849 ⟨Nat.le_of_ble_eq_true rfl, Nat.le_of_ble_eq_true rfl⟩) hD hS hA (fun w H locs hO hP hD hS => ?_)
                    have hO : OB y h T (s_X11_set_z 7 (qTol (1 + ((x / 8) - (x / 8) / 20 * 20)) z) z) (hpu z []) (some z) s1 w := oy (k_849 c_29) hO
                    have hz : TS (s_X11_set_z 7 (qTol (1 + ((x / 8) - (x / 8) / 20 * 20)) z) z) := (t_849 c_29)
                    refine lv_if_lt (tgt := 910) hx hb dL_hands_852 (by decide) (fun c9 => absurd c9 (f_852 c_29)) (fun _ => ?_)
                    refine lv_aload_n hx hb dL_hands_855 rfl (lv_at hl 4 rfl) ?_
                    refine lv_bipush (v := 17) hx hb dL_hands_856 (by decide) ?_
                    refine cl_O (Φ := (fun w9 => OB y h T (s_X11_set_z 7 (qTol (1 + ((x / 8) - (x / 8) / 20 * 20)) z) z) (hpu z []) (some z) s1 w9)) (vx_runSX (As := [.ref h, .int 17]) (rest := []) ⟨hx, hb, hml, hown, hts⟩ (w_about l G y h 17 w T (s_X11_set_z 7 (qTol (1 + ((x / 8) - (x / 8) / 20 * 20)) z) z) (hpu z []) (some z) s1 H.size hO hz  hfl) (vx_cwSW 2 hts gL_hands_L_tryAbout rfl rfl rfl (by decide +kernel) ⟨Nat.le_of_ble_eq_true rfl, Nat.le_of_ble_eq_true rfl⟩) (PHZ_S hP hK hN hD hTY hS (F_0 hD hS hA)) rfl rfl hl.1 rfl (lv_room (Nat.le_of_ble_eq_true rfl)) dL_hands_858 ⟨Nat.le_of_ble_eq_true rfl, Nat.le_of_ble_eq_true rfl⟩) hD hS hA (fun w H locs hO hP hD hS => ?_)
                    refine lv_iload hx hb dL_hands_861 (lv_at hl 1 rfl) ?_
                    refine lv_icmp_lt (tgt := 910) hx hb dL_hands_863 (by decide) (fun c9 => absurd c9 (f_863 c_29)) (fun _ => ?_)
                    refine lv_iload hx hb dL_hands_866 (lv_at hl 0 rfl) ?_
                    refine lv_if_eq (tgt := 897) hx hb dL_hands_868 (by decide) (fun c_53 => ?_) (fun c_53 => ?_)
                    · refine lv_aload_n hx hb dL_hands_897 rfl (lv_at hl 4 rfl) ?_
                      refine lv_iconst (v := 0) hx hb dL_hands_898 (by decide) ?_
                      refine cl_O (Φ := (fun w9 => (kRes 0 (some z) s1 = 0 ∧ OB y h T z [] (some z) s1 w9) ∨ (¬ kRes 0 (some z) s1 = 0 ∧ OB y h T (s_X11_set_z 7 (qTol (1 + ((x / 8) - (x / 8) / 20 * 20)) z) z) (hpu z []) (some z) s1 w9))) (vx_runSX (As := [.ref h, .int 0]) (rest := []) ⟨hx, hb, hml, hown, hts⟩ (w_restore l G y h 0 w T (s_X11_set_z 7 (qTol (1 + ((x / 8) - (x / 8) / 20 * 20)) z) z) (hpu z []) (some z) s1 H.size hO hz  hfl) (vx_cwSW 2 hts gL_hands_L_tryRestore rfl rfl rfl (by decide +kernel) ⟨Nat.le_of_ble_eq_true rfl, Nat.le_of_ble_eq_true rfl⟩) (PHZ_S hP hK hN hD hTY hS (F_0 hD hS hA)) rfl rfl hl.1 rfl (lv_room (Nat.le_of_ble_eq_true rfl)) dL_hands_899 ⟨Nat.le_of_ble_eq_true rfl, Nat.le_of_ble_eq_true rfl⟩) hD hS hA (fun w H locs hO hP hD hS => ?_)
                      have hO : OB y h T z [] (some z) s1 w := oy (k_899 c_29 c_53) hO
                      have hz : TS z := (t_899 c_29 c_53)
                      refine lv_iload_n hx hb dL_hands_902 rfl (lv_at hl 3 rfl) ?_
                      refine lv_icmp_ne (tgt := 910) hx hb dL_hands_903 (by decide) (fun c9 => absurd (f_903 c_29 c_53) c9) (fun _ => ?_)
                      refine lv_iconst (v := 1) hx hb dL_hands_906 (by decide) ?_
                      refine lv_goto (tgt := 911) hx hb dL_hands_907 (by decide) ?_
                      refine W.widen (k := 789) (n := 4734) (by omega) (by omega) ?_
                      exact J911_30 w hO H locs hP hD hS ls (lv_sub hl [3, 4, 5] rfl)
                    · refine lv_aload_n hx hb dL_hands_871 rfl (lv_at hl 4 rfl) ?_
                      refine lv_bipush (v := 7) hx hb dL_hands_872 (by decide) ?_
                      refine lv_iload hx hb dL_hands_874 (lv_at hl 0 rfl) ?_
                      refine lv_iconst (v := 1) hx hb dL_hands_876 (by decide) ?_
                      refine lv_isub hx hb dL_hands_877 ?_
                      refine cl_O (Φ := (fun w9 => (s_X11_set_k 7 ((qTol (1 + ((x / 8) - (x / 8) / 20 * 20)) z) - 1) = 0 ∧ OB y h T (s_X11_set_z 7 ((qTol (1 + ((x / 8) - (x / 8) / 20 * 20)) z) - 1) (s_X11_set_z 7 (qTol (1 + ((x / 8) - (x / 8) / 20 * 20)) z) z)) (hpu (s_X11_set_z 7 (qTol (1 + ((x / 8) - (x / 8) / 20 * 20)) z) z) (hpu z [])) (some z) s1 w9) ∨ (¬ s_X11_set_k 7 ((qTol (1 + ((x / 8) - (x / 8) / 20 * 20)) z) - 1) = 0 ∧ OB y h T (s_X11_set_z 7 (qTol (1 + ((x / 8) - (x / 8) / 20 * 20)) z) z) (hpu z []) (some z) s1 w9))) (vx_runSX (As := [.ref h, .int 7, .int ((qTol (1 + ((x / 8) - (x / 8) / 20 * 20)) z) - 1)]) (rest := []) ⟨hx, hb, hml, hown, hts⟩ (w_set l G y h 7 ((qTol (1 + ((x / 8) - (x / 8) / 20 * 20)) z) - 1) w T (s_X11_set_z 7 (qTol (1 + ((x / 8) - (x / 8) / 20 * 20)) z) z) (hpu z []) (some z) s1 H.size hO hz  hfl) (vx_cwSW 3 hts gL_hands_L_trySet rfl rfl rfl (by decide +kernel) ⟨Nat.le_of_ble_eq_true rfl, Nat.le_of_ble_eq_true rfl⟩) (PHZ_S hP hK hN hD hTY hS (F_0 hD hS hA)) rfl rfl hl.1 rfl (lv_room (Nat.le_of_ble_eq_true rfl)) dL_hands_878 ⟨Nat.le_of_ble_eq_true rfl, Nat.le_of_ble_eq_true rfl⟩) hD hS hA (fun w H locs hO hP hD hS => ?_)
                      have hO : OB y h T (s_X11_set_z 7 ((qTol (1 + ((x / 8) - (x / 8) / 20 * 20)) z) - 1) (s_X11_set_z 7 (qTol (1 + ((x / 8) - (x / 8) / 20 * 20)) z) z)) (hpu (s_X11_set_z 7 (qTol (1 + ((x / 8) - (x / 8) / 20 * 20)) z) z) (hpu z [])) (some z) s1 w := oy (k_878 c_29 c_53) hO
                      have hz : TS (s_X11_set_z 7 ((qTol (1 + ((x / 8) - (x / 8) / 20 * 20)) z) - 1) (s_X11_set_z 7 (qTol (1 + ((x / 8) - (x / 8) / 20 * 20)) z) z)) := (t_878 c_29 c_53)
                      refine lv_iload hx hb dL_hands_881 (lv_at hl 0 rfl) ?_
                      refine lv_icmp_ne (tgt := 910) hx hb dL_hands_883 (by decide) (fun c9 => absurd (f_883 c_29 c_53) c9) (fun _ => ?_)
                      refine lv_aload_n hx hb dL_hands_886 rfl (lv_at hl 4 rfl) ?_
                      refine lv_bipush (v := 17) hx hb dL_hands_887 (by decide) ?_
                      refine cl_O (Φ := (fun w9 => OB y h T (s_X11_set_z 7 ((qTol (1 + ((x / 8) - (x / 8) / 20 * 20)) z) - 1) (s_X11_set_z 7 (qTol (1 + ((x / 8) - (x / 8) / 20 * 20)) z) z)) (hpu (s_X11_set_z 7 (qTol (1 + ((x / 8) - (x / 8) / 20 * 20)) z) z) (hpu z [])) (some z) s1 w9)) (vx_runSX (As := [.ref h, .int 17]) (rest := []) ⟨hx, hb, hml, hown, hts⟩ (w_about l G y h 17 w T (s_X11_set_z 7 ((qTol (1 + ((x / 8) - (x / 8) / 20 * 20)) z) - 1) (s_X11_set_z 7 (qTol (1 + ((x / 8) - (x / 8) / 20 * 20)) z) z)) (hpu (s_X11_set_z 7 (qTol (1 + ((x / 8) - (x / 8) / 20 * 20)) z) z) (hpu z [])) (some z) s1 H.size hO hz  hfl) (vx_cwSW 2 hts gL_hands_L_tryAbout rfl rfl rfl (by decide +kernel) ⟨Nat.le_of_ble_eq_true rfl, Nat.le_of_ble_eq_true rfl⟩) (PHZ_S hP hK hN hD hTY hS (F_0 hD hS hA)) rfl rfl hl.1 rfl (lv_room (Nat.le_of_ble_eq_true rfl)) dL_hands_889 ⟨Nat.le_of_ble_eq_true rfl, Nat.le_of_ble_eq_true rfl⟩) hD hS hA (fun w H locs hO hP hD hS => ?_)
                      refine lv_iload hx hb dL_hands_892 (lv_at hl 1 rfl) ?_
                      refine lv_icmp_ge (tgt := 910) hx hb dL_hands_894 (by decide) (fun c9 => absurd c9 (f_894 c_29 c_53)) (fun _ => ?_)
                      refine lv_aload_n hx hb dL_hands_897 rfl (lv_at hl 4 rfl) ?_
                      refine lv_iconst (v := 0) hx hb dL_hands_898 (by decide) ?_
                      refine cl_O (Φ := (fun w9 => (kRes 0 (some z) s1 = 0 ∧ OB y h T z [] (some z) s1 w9) ∨ (¬ kRes 0 (some z) s1 = 0 ∧ OB y h T (s_X11_set_z 7 ((qTol (1 + ((x / 8) - (x / 8) / 20 * 20)) z) - 1) (s_X11_set_z 7 (qTol (1 + ((x / 8) - (x / 8) / 20 * 20)) z) z)) (hpu (s_X11_set_z 7 (qTol (1 + ((x / 8) - (x / 8) / 20 * 20)) z) z) (hpu z [])) (some z) s1 w9))) (vx_runSX (As := [.ref h, .int 0]) (rest := []) ⟨hx, hb, hml, hown, hts⟩ (w_restore l G y h 0 w T (s_X11_set_z 7 ((qTol (1 + ((x / 8) - (x / 8) / 20 * 20)) z) - 1) (s_X11_set_z 7 (qTol (1 + ((x / 8) - (x / 8) / 20 * 20)) z) z)) (hpu (s_X11_set_z 7 (qTol (1 + ((x / 8) - (x / 8) / 20 * 20)) z) z) (hpu z [])) (some z) s1 H.size hO hz  hfl) (vx_cwSW 2 hts gL_hands_L_tryRestore rfl rfl rfl (by decide +kernel) ⟨Nat.le_of_ble_eq_true rfl, Nat.le_of_ble_eq_true rfl⟩) (PHZ_S hP hK hN hD hTY hS (F_0 hD hS hA)) rfl rfl hl.1 rfl (lv_room (Nat.le_of_ble_eq_true rfl)) dL_hands_899 ⟨Nat.le_of_ble_eq_true rfl, Nat.le_of_ble_eq_true rfl⟩) hD hS hA (fun w H locs hO hP hD hS => ?_)
                      have hO : OB y h T z [] (some z) s1 w := oy (k_899b c_29 c_53) hO
                      have hz : TS z := (t_899b c_29 c_53)
                      refine lv_iload_n hx hb dL_hands_902 rfl (lv_at hl 3 rfl) ?_
                      refine lv_icmp_ne (tgt := 910) hx hb dL_hands_903 (by decide) (fun c9 => absurd (f_903b c_29 c_53) c9) (fun _ => ?_)
                      refine lv_iconst (v := 1) hx hb dL_hands_906 (by decide) ?_
                      refine lv_goto (tgt := 911) hx hb dL_hands_907 (by decide) ?_
                      exact J911_30 w hO H locs hP hD hS ls (lv_sub hl [3, 4, 5] rfl)
                  · refine lv_aload_n hx hb dL_hands_815 rfl (lv_at hl 4 rfl) ?_
                    refine lv_bipush (v := 7) hx hb dL_hands_816 (by decide) ?_
                    refine lv_bipush (v := 99) hx hb dL_hands_818 (by decide) ?_
                    refine cl_O (Φ := (fun w9 => (s_X11_set_k 7 99 = 0 ∧ OB y h T (s_X11_set_z 7 99 z) (hpu z []) (some z) s1 w9) ∨ (¬ s_X11_set_k 7 99 = 0 ∧ OB y h T z [] (some z) s1 w9))) (vx_runSX (As := [.ref h, .int 7, .int 99]) (rest := []) ⟨hx, hb, hml, hown, hts⟩ (w_set l G y h 7 99 w T z [] (some z) s1 H.size hO hz  hfl) (vx_cwSW 3 hts gL_hands_L_trySet rfl rfl rfl (by decide +kernel) ⟨Nat.le_of_ble_eq_true rfl, Nat.le_of_ble_eq_true rfl⟩) (PHZ_S hP hK hN hD hTY hS (F_0 hD hS hA)) rfl rfl hl.1 rfl (lv_room (Nat.le_of_ble_eq_true rfl)) dL_hands_820 ⟨Nat.le_of_ble_eq_true rfl, Nat.le_of_ble_eq_true rfl⟩) hD hS hA (fun w H locs hO hP hD hS => ?_)
                    have hO : OB y h T (s_X11_set_z 7 99 z) (hpu z []) (some z) s1 w := oy (k_820 c_29) hO
                    have hz : TS (s_X11_set_z 7 99 z) := (t_820 c_29)
                    refine lv_if_lt (tgt := 910) hx hb dL_hands_823 (by decide) (fun c9 => absurd c9 (f_823 c_29)) (fun _ => ?_)
                    refine lv_aload_n hx hb dL_hands_826 rfl (lv_at hl 4 rfl) ?_
                    refine lv_bipush (v := 17) hx hb dL_hands_827 (by decide) ?_
                    refine cl_O (Φ := (fun w9 => OB y h T (s_X11_set_z 7 99 z) (hpu z []) (some z) s1 w9)) (vx_runSX (As := [.ref h, .int 17]) (rest := []) ⟨hx, hb, hml, hown, hts⟩ (w_about l G y h 17 w T (s_X11_set_z 7 99 z) (hpu z []) (some z) s1 H.size hO hz  hfl) (vx_cwSW 2 hts gL_hands_L_tryAbout rfl rfl rfl (by decide +kernel) ⟨Nat.le_of_ble_eq_true rfl, Nat.le_of_ble_eq_true rfl⟩) (PHZ_S hP hK hN hD hTY hS (F_0 hD hS hA)) rfl rfl hl.1 rfl (lv_room (Nat.le_of_ble_eq_true rfl)) dL_hands_829 ⟨Nat.le_of_ble_eq_true rfl, Nat.le_of_ble_eq_true rfl⟩) hD hS hA (fun w H locs hO hP hD hS => ?_)
                    refine lv_iload hx hb dL_hands_832 (lv_at hl 1 rfl) ?_
                    refine lv_icmp_ge (tgt := 910) hx hb dL_hands_834 (by decide) (fun c9 => absurd c9 (f_834 c_29)) (fun _ => ?_)
                    refine lv_iload hx hb dL_hands_837 (lv_at hl 0 rfl) ?_
                    refine lv_ldc (v := (-99999)) hx hb hown (hts (.constant RL 119 (-99999)) (by decide +kernel)) dL_hands_839 ?_
                    refine lv_icmp_eq (tgt := 897) hx hb dL_hands_841 (by decide) (fun _ => ?_) (fun c_60 => (by first | exact absurd c_60 c_29 | exact absurd c_29 c_60))
                    refine lv_aload_n hx hb dL_hands_897 rfl (lv_at hl 4 rfl) ?_
                    refine lv_iconst (v := 0) hx hb dL_hands_898 (by decide) ?_
                    refine cl_O (Φ := (fun w9 => (kRes 0 (some z) s1 = 0 ∧ OB y h T z [] (some z) s1 w9) ∨ (¬ kRes 0 (some z) s1 = 0 ∧ OB y h T (s_X11_set_z 7 99 z) (hpu z []) (some z) s1 w9))) (vx_runSX (As := [.ref h, .int 0]) (rest := []) ⟨hx, hb, hml, hown, hts⟩ (w_restore l G y h 0 w T (s_X11_set_z 7 99 z) (hpu z []) (some z) s1 H.size hO hz  hfl) (vx_cwSW 2 hts gL_hands_L_tryRestore rfl rfl rfl (by decide +kernel) ⟨Nat.le_of_ble_eq_true rfl, Nat.le_of_ble_eq_true rfl⟩) (PHZ_S hP hK hN hD hTY hS (F_0 hD hS hA)) rfl rfl hl.1 rfl (lv_room (Nat.le_of_ble_eq_true rfl)) dL_hands_899 ⟨Nat.le_of_ble_eq_true rfl, Nat.le_of_ble_eq_true rfl⟩) hD hS hA (fun w H locs hO hP hD hS => ?_)
                    have hO : OB y h T z [] (some z) s1 w := oy (k_899c c_29) hO
                    have hz : TS z := (t_899c c_29)
                    refine lv_iload_n hx hb dL_hands_902 rfl (lv_at hl 3 rfl) ?_
                    refine lv_icmp_ne (tgt := 910) hx hb dL_hands_903 (by decide) (fun c9 => absurd (f_903c c_29) c9) (fun _ => ?_)
                    refine lv_iconst (v := 1) hx hb dL_hands_906 (by decide) ?_
                    refine lv_goto (tgt := 911) hx hb dL_hands_907 (by decide) ?_
                    refine W.widen (k := 789) (n := 4734) (by omega) (by omega) ?_
                    exact J911_30 w hO H locs hP hD hS ls (lv_sub hl [3, 4, 5] rfl)
                refine lv_if_le (tgt := 784) hx hb dL_hands_669 (by decide) (fun c_26 => ?_) (fun c_26 => ?_)
                · refine W.widen (k := 783) (n := 4698) (by omega) (by omega) ?_
                  exact J784_27 w hO H locs hP hD hS ls (lv_sub hl [0, 2, 3, 4] rfl)
                · refine lv_iload hx hb dL_hands_672 (lv_at hl 0 rfl) ?_
                  refine lv_if_eq (tgt := 784) hx hb dL_hands_674 (by decide) (fun c_62 => (by first | exact absurd c_62 (by decide : ¬ ((1 : Int32) = 0)) | exact absurd (by decide : ¬ ((1 : Int32) = 0)) c_62)) (fun _ => ?_)
                  refine lv_iload_n hx hb dL_hands_677 rfl (lv_at hl 4 rfl) ?_
                  refine lv_sipush (v := 256) hx hb dL_hands_678 (by decide) ?_
                  refine lv_idiv hx hb dL_hands_681 (by decide) ?_
                  refine lv_iload_n hx hb dL_hands_682 rfl (lv_at hl 1 rfl) ?_
                  refine lv_irem hx hb dL_hands_683 (n_683 c_26) ?_
                  refine lv_istore (lv' := [(15, .int ((x / 256) - (x / 256) / (qAbout 16 z) * (qAbout 16 z))), (9, .int 1), (3, .int (qAbout 16 z)), (2, .int (qAbout 13 z)), (0, .ref h), (1, .int x)]) hx hb dL_hands_684 hl (by decide) rfl (fun ls hl => ?_)
                  refine lv_aload_n hx hb dL_hands_686 rfl (lv_at hl 4 rfl) ?_
                  refine lv_iload hx hb dL_hands_687 (lv_at hl 0 rfl) ?_
                  refine lv_iconst (v := 0) hx hb dL_hands_689 (by decide) ?_
                  refine cl_O (Φ := (fun w9 => OB y h T z [] (some z) s1 w9)) (vx_runSX (As := [.ref h, .int ((x / 256) - (x / 256) / (qAbout 16 z) * (qAbout 16 z)), .int 0]) (rest := []) ⟨hx, hb, hml, hown, hts⟩ (w_swing l G y h ((x / 256) - (x / 256) / (qAbout 16 z) * (qAbout 16 z)) 0 w T z [] (some z) s1 H.size hO hz  hfl) (vx_cwSW 3 hts gL_hands_L_trySwing rfl rfl rfl (by decide +kernel) ⟨Nat.le_of_ble_eq_true rfl, Nat.le_of_ble_eq_true rfl⟩) (PHZ_S hP hK hN hD hTY hS (F_0 hD hS hA)) rfl rfl hl.1 rfl (lv_room (Nat.le_of_ble_eq_true rfl)) dL_hands_690 ⟨Nat.le_of_ble_eq_true rfl, Nat.le_of_ble_eq_true rfl⟩) hD hS hA (fun w H locs hO hP hD hS => ?_)
                  refine lv_istore (lv' := [(16, .int (qSwing ((x / 256) - (x / 256) / (qAbout 16 z) * (qAbout 16 z)) 0 z)), (15, .int ((x / 256) - (x / 256) / (qAbout 16 z) * (qAbout 16 z))), (9, .int 1), (3, .int (qAbout 16 z)), (2, .int (qAbout 13 z)), (0, .ref h), (1, .int x)]) hx hb dL_hands_693 hl (by decide) rfl (fun ls hl => ?_)
                  refine lv_iload hx hb dL_hands_695 (lv_at hl 1 rfl) ?_
                  refine lv_iconst (v := 1) hx hb dL_hands_697 (by decide) ?_
                  refine lv_iadd hx hb dL_hands_698 ?_
                  refine lv_iload_n hx hb dL_hands_699 rfl (lv_at hl 3 rfl) ?_
                  have J716_65 : ∀ (v_64 : Int32) (e_v_64 : v_64 = (if (qAbout 16 z) ≤ (((x / 256) - (x / 256) / (qAbout 16 z) * (qAbout 16 z)) + 1) then (0 : Int32) else (qSwing (((x / 256) - (x / 256) / (qAbout 16 z) * (qAbout 16 z)) + 1) 4 z))) (w : va_W) (hO : OB y h T z [] (some z) s1 w) (H : Heap) (locs : List Loc) (hP : va_P G vwCl w H) (hD : va_D A w) (hS : va_S A s.heap H locs) (ls : Array Slot) (hl : lv_has ls 23 [(16, .int (qSwing ((x / 256) - (x / 256) / (qAbout 16 z) * (qAbout 16 z)) 0 z)), (15, .int ((x / 256) - (x / 256) / (qAbout 16 z) * (qAbout 16 z))), (3, .int (qAbout 16 z)), (2, .int (qAbout 13 z)), (0, .ref h), (1, .int x)]), W p l e (headSpec wsL_hands rmL_hands).room s m ([.ref h, .int x] : List Value).toArray below meth c H locs 534 3204 QQ (F0 m 716 ls [.int v_64]) := by
                    intro v_64 e_v_64 w hO H locs hP hD hS ls hl
                    subst e_v_64
                    refine lv_istore (lv' := [(17, .int (if (qAbout 16 z) ≤ (((x / 256) - (x / 256) / (qAbout 16 z) * (qAbout 16 z)) + 1) then (0 : Int32) else (qSwing (((x / 256) - (x / 256) / (qAbout 16 z) * (qAbout 16 z)) + 1) 4 z))), (16, .int (qSwing ((x / 256) - (x / 256) / (qAbout 16 z) * (qAbout 16 z)) 0 z)), (15, .int ((x / 256) - (x / 256) / (qAbout 16 z) * (qAbout 16 z))), (3, .int (qAbout 16 z)), (2, .int (qAbout 13 z)), (0, .ref h), (1, .int x)]) hx hb dL_hands_716 hl (by decide) rfl (fun ls hl => ?_)
                    refine lv_aload_n hx hb dL_hands_718 rfl (lv_at hl 5 rfl) ?_
                    refine lv_iload hx hb dL_hands_719 (lv_at hl 2 rfl) ?_
                    refine cl_O (Φ := (fun w9 => (s_X11_discard_k ((x / 256) - (x / 256) / (qAbout 16 z) * (qAbout 16 z)) z = 0 ∧ OB y h T (s_X11_discard_z ((x / 256) - (x / 256) / (qAbout 16 z) * (qAbout 16 z)) z) (hpu z []) (some z) s1 w9) ∨ (¬ s_X11_discard_k ((x / 256) - (x / 256) / (qAbout 16 z) * (qAbout 16 z)) z = 0 ∧ OB y h T z [] (some z) s1 w9))) (vx_runSX (As := [.ref h, .int ((x / 256) - (x / 256) / (qAbout 16 z) * (qAbout 16 z))]) (rest := []) ⟨hx, hb, hml, hown, hts⟩ (w_discard l G y h ((x / 256) - (x / 256) / (qAbout 16 z) * (qAbout 16 z)) w T z [] (some z) s1 H.size hO hz  hfl) (vx_cwSW 2 hts gL_hands_L_tryDiscard rfl rfl rfl (by decide +kernel) ⟨Nat.le_of_ble_eq_true rfl, Nat.le_of_ble_eq_true rfl⟩) (PHZ_S hP hK hN hD hTY hS (F_0 hD hS hA)) rfl rfl hl.1 rfl (lv_room (Nat.le_of_ble_eq_true rfl)) dL_hands_721 ⟨Nat.le_of_ble_eq_true rfl, Nat.le_of_ble_eq_true rfl⟩) hD hS hA (fun w H locs hO hP hD hS => ?_)
                    have hO : OB y h T (s_X11_discard_z ((x / 256) - (x / 256) / (qAbout 16 z) * (qAbout 16 z)) z) (hpu z []) (some z) s1 w := oy (k_721 c_26) hO
                    have hz : TS (s_X11_discard_z ((x / 256) - (x / 256) / (qAbout 16 z) * (qAbout 16 z)) z) := (t_721 c_26)
                    refine lv_iload hx hb dL_hands_724 (lv_at hl 1 rfl) ?_
                    refine lv_icmp_ne (tgt := 781) hx hb dL_hands_726 (by decide) (fun c9 => absurd (f_726 c_26) c9) (fun _ => ?_)
                    refine lv_aload_n hx hb dL_hands_729 rfl (lv_at hl 5 rfl) ?_
                    refine lv_bipush (v := 16) hx hb dL_hands_730 (by decide) ?_
                    refine cl_O (Φ := (fun w9 => OB y h T (s_X11_discard_z ((x / 256) - (x / 256) / (qAbout 16 z) * (qAbout 16 z)) z) (hpu z []) (some z) s1 w9)) (vx_runSX (As := [.ref h, .int 16]) (rest := []) ⟨hx, hb, hml, hown, hts⟩ (w_about l G y h 16 w T (s_X11_discard_z ((x / 256) - (x / 256) / (qAbout 16 z) * (qAbout 16 z)) z) (hpu z []) (some z) s1 H.size hO hz  hfl) (vx_cwSW 2 hts gL_hands_L_tryAbout rfl rfl rfl (by decide +kernel) ⟨Nat.le_of_ble_eq_true rfl, Nat.le_of_ble_eq_true rfl⟩) (PHZ_S hP hK hN hD hTY hS (F_0 hD hS hA)) rfl rfl hl.1 rfl (lv_room (Nat.le_of_ble_eq_true rfl)) dL_hands_732 ⟨Nat.le_of_ble_eq_true rfl, Nat.le_of_ble_eq_true rfl⟩) hD hS hA (fun w H locs hO hP hD hS => ?_)
                    refine lv_iload_n hx hb dL_hands_735 rfl (lv_at hl 3 rfl) ?_
                    refine lv_iconst (v := 1) hx hb dL_hands_736 (by decide) ?_
                    refine lv_isub hx hb dL_hands_737 ?_
                    refine lv_icmp_ne (tgt := 781) hx hb dL_hands_738 (by decide) (fun c9 => absurd (f_738 c_26) c9) (fun _ => ?_)
                    refine lv_iload hx hb dL_hands_741 (lv_at hl 2 rfl) ?_
                    refine lv_iconst (v := 1) hx hb dL_hands_743 (by decide) ?_
                    refine lv_iadd hx hb dL_hands_744 ?_
                    refine lv_iload_n hx hb dL_hands_745 rfl (lv_at hl 3 rfl) ?_
                    have J761_69 : ∀  (w : va_W) (hO : OB y h T (s_X11_discard_z ((x / 256) - (x / 256) / (qAbout 16 z) * (qAbout 16 z)) z) (hpu z []) (some z) s1 w) (H : Heap) (locs : List Loc) (hP : va_P G vwCl w H) (hD : va_D A w) (hS : va_S A s.heap H locs) (ls : Array Slot) (hl : lv_has ls 23 [(2, .int (qAbout 13 z)), (0, .ref h), (1, .int x)]), W p l e (headSpec wsL_hands rmL_hands).room s m ([.ref h, .int x] : List Value).toArray below meth c H locs 537 3222 QQ (F0 m 761 ls []) := by
                      intro w hO H locs hP hD hS ls hl
                      refine lv_aload_n hx hb dL_hands_761 rfl (lv_at hl 1 rfl) ?_
                      refine cl_OM (Φ := (fun w9 => OB y h T (s_X11_discard_z ((x / 256) - (x / 256) / (qAbout 16 z) * (qAbout 16 z)) z) (hpu z []) (some z) s1 w9)) (va_runS (As := [.ref h]) (rest := []) ⟨hx, hb, hml, hown, hts⟩ (c_L_sound l G y h w T (s_X11_discard_z ((x / 256) - (x / 256) / (qAbout 16 z) * (qAbout 16 z)) z) (hpu z []) (some z) s1 H.size hO hz (m_762 c_26) hfl) (va_cwS 1 hts gL_hands_L_sound rfl rfl rfl (by decide +kernel) ⟨Nat.le_of_ble_eq_true rfl, Nat.le_of_ble_eq_true rfl⟩) (PHZ_S hP hK hN hD hTY hS (F_0 hD hS hA)) rfl rfl hl.1 rfl (lv_room (Nat.le_of_ble_eq_true rfl)) dL_hands_762 ⟨Nat.le_of_ble_eq_true rfl, Nat.le_of_ble_eq_true rfl⟩) hD hS hA (fun w H locs hO hP hD hS => ?_)
                      refine lv_if_eq (tgt := 781) hx hb dL_hands_765 (by decide) (fun c_70 => (by first | exact absurd c_70 (by decide : ¬ ((1 : Int32) = 0)) | exact absurd (by decide : ¬ ((1 : Int32) = 0)) c_70)) (fun _ => ?_)
                      refine lv_aload_n hx hb dL_hands_768 rfl (lv_at hl 1 rfl) ?_
                      refine lv_iconst (v := 0) hx hb dL_hands_769 (by decide) ?_
                      refine cl_O (Φ := (fun w9 => (kRes 0 (some z) s1 = 0 ∧ OB y h T z [] (some z) s1 w9) ∨ (¬ kRes 0 (some z) s1 = 0 ∧ OB y h T (s_X11_discard_z ((x / 256) - (x / 256) / (qAbout 16 z) * (qAbout 16 z)) z) (hpu z []) (some z) s1 w9))) (vx_runSX (As := [.ref h, .int 0]) (rest := []) ⟨hx, hb, hml, hown, hts⟩ (w_restore l G y h 0 w T (s_X11_discard_z ((x / 256) - (x / 256) / (qAbout 16 z) * (qAbout 16 z)) z) (hpu z []) (some z) s1 H.size hO hz  hfl) (vx_cwSW 2 hts gL_hands_L_tryRestore rfl rfl rfl (by decide +kernel) ⟨Nat.le_of_ble_eq_true rfl, Nat.le_of_ble_eq_true rfl⟩) (PHZ_S hP hK hN hD hTY hS (F_0 hD hS hA)) rfl rfl hl.1 rfl (lv_room (Nat.le_of_ble_eq_true rfl)) dL_hands_770 ⟨Nat.le_of_ble_eq_true rfl, Nat.le_of_ble_eq_true rfl⟩) hD hS hA (fun w H locs hO hP hD hS => ?_)
                      have hO : OB y h T z [] (some z) s1 w := oy (k_770 c_26) hO
                      have hz : TS z := (t_770 c_26)
                      refine lv_iload_n hx hb dL_hands_773 rfl (lv_at hl 0 rfl) ?_
                      refine lv_icmp_ne (tgt := 781) hx hb dL_hands_774 (by decide) (fun c9 => absurd (f_774 c_26) c9) (fun _ => ?_)
                      refine lv_iconst (v := 1) hx hb dL_hands_777 (by decide) ?_
                      refine lv_goto (tgt := 782) hx hb dL_hands_778 (by decide) ?_
                      refine lv_istore (lv' := [(9, .int 1), (2, .int (qAbout 13 z)), (0, .ref h), (1, .int x)]) hx hb dL_hands_782 hl (by decide) rfl (fun ls hl => ?_)
                      exact J784_27 w hO H locs hP hD hS ls (lv_sub hl [0, 1, 2, 3] rfl)
                    refine lv_icmp_eq (tgt := 761) hx hb dL_hands_746 (by decide) (fun c_68 => ?_) (fun c_68 => ?_)
                    · refine W.widen (k := 537) (n := 3222) (by omega) (by omega) ?_
                      exact J761_69 w hO H locs hP hD hS ls (lv_sub hl [4, 5, 6] rfl)
                    · refine lv_aload_n hx hb dL_hands_749 rfl (lv_at hl 5 rfl) ?_
                      refine lv_iload hx hb dL_hands_750 (lv_at hl 2 rfl) ?_
                      refine lv_iconst (v := 4) hx hb dL_hands_752 (by decide) ?_
                      refine cl_O (Φ := (fun w9 => OB y h T (s_X11_discard_z ((x / 256) - (x / 256) / (qAbout 16 z) * (qAbout 16 z)) z) (hpu z []) (some z) s1 w9)) (vx_runSX (As := [.ref h, .int ((x / 256) - (x / 256) / (qAbout 16 z) * (qAbout 16 z)), .int 4]) (rest := []) ⟨hx, hb, hml, hown, hts⟩ (w_swing l G y h ((x / 256) - (x / 256) / (qAbout 16 z) * (qAbout 16 z)) 4 w T (s_X11_discard_z ((x / 256) - (x / 256) / (qAbout 16 z) * (qAbout 16 z)) z) (hpu z []) (some z) s1 H.size hO hz  hfl) (vx_cwSW 3 hts gL_hands_L_trySwing rfl rfl rfl (by decide +kernel) ⟨Nat.le_of_ble_eq_true rfl, Nat.le_of_ble_eq_true rfl⟩) (PHZ_S hP hK hN hD hTY hS (F_0 hD hS hA)) rfl rfl hl.1 rfl (lv_room (Nat.le_of_ble_eq_true rfl)) dL_hands_753 ⟨Nat.le_of_ble_eq_true rfl, Nat.le_of_ble_eq_true rfl⟩) hD hS hA (fun w H locs hO hP hD hS => ?_)
                      refine lv_iload hx hb dL_hands_756 (lv_at hl 0 rfl) ?_
                      refine lv_icmp_ne (tgt := 781) hx hb dL_hands_758 (by decide) (fun c9 => absurd (f_758 c_26 c_68) c9) (fun _ => ?_)
                      exact J761_69 w hO H locs hP hD hS ls (lv_sub hl [4, 5, 6] rfl)
                  refine lv_icmp_ge (tgt := 715) hx hb dL_hands_700 (by decide) (fun c_63 => ?_) (fun c_63 => ?_)
                  · refine lv_iconst (v := 0) hx hb dL_hands_715 (by decide) ?_
                    refine W.widen (k := 534) (n := 3204) (by omega) (by omega) ?_
                    exact J716_65 _ ((if_pos c_63).symm) w hO H locs hP hD hS ls (lv_sub hl [0, 1, 3, 4, 5, 6] rfl)
                  · refine lv_aload_n hx hb dL_hands_703 rfl (lv_at hl 5 rfl) ?_
                    refine lv_iload hx hb dL_hands_704 (lv_at hl 1 rfl) ?_
                    refine lv_iconst (v := 1) hx hb dL_hands_706 (by decide) ?_
                    refine lv_iadd hx hb dL_hands_707 ?_
                    refine lv_iconst (v := 4) hx hb dL_hands_708 (by decide) ?_
                    refine cl_O (Φ := (fun w9 => OB y h T z [] (some z) s1 w9)) (vx_runSX (As := [.ref h, .int (((x / 256) - (x / 256) / (qAbout 16 z) * (qAbout 16 z)) + 1), .int 4]) (rest := []) ⟨hx, hb, hml, hown, hts⟩ (w_swing l G y h (((x / 256) - (x / 256) / (qAbout 16 z) * (qAbout 16 z)) + 1) 4 w T z [] (some z) s1 H.size hO hz  hfl) (vx_cwSW 3 hts gL_hands_L_trySwing rfl rfl rfl (by decide +kernel) ⟨Nat.le_of_ble_eq_true rfl, Nat.le_of_ble_eq_true rfl⟩) (PHZ_S hP hK hN hD hTY hS (F_0 hD hS hA)) rfl rfl hl.1 rfl (lv_room (Nat.le_of_ble_eq_true rfl)) dL_hands_709 ⟨Nat.le_of_ble_eq_true rfl, Nat.le_of_ble_eq_true rfl⟩) hD hS hA (fun w H locs hO hP hD hS => ?_)
                    refine lv_goto (tgt := 716) hx hb dL_hands_712 (by decide) ?_
                    exact J716_65 _ ((if_neg c_63).symm) w hO H locs hP hD hS ls (lv_sub hl [0, 1, 3, 4, 5, 6] rfl)
              refine lv_if_le (tgt := 668) hx hb dL_hands_204 (by decide) (fun c_24 => ?_) (fun c_24 => ?_)
              · refine W.widen (k := 532) (n := 3192) (by omega) (by omega) ?_
                exact J668_25 w hO H locs hP hD hS ls (lv_sub hl [0, 11, 12, 13, 14] rfl)
              · refine lv_iload hx hb dL_hands_207 (lv_at hl 0 rfl) ?_
                refine lv_if_eq (tgt := 668) hx hb dL_hands_209 (by decide) (fun c_73 => (by first | exact absurd c_73 (by decide : ¬ ((1 : Int32) = 0)) | exact absurd (by decide : ¬ ((1 : Int32) = 0)) c_73)) (fun _ => ?_)
                refine lv_aload_n hx hb dL_hands_212 rfl (lv_at hl 13 rfl) ?_
                refine lv_iload hx hb dL_hands_213 (lv_at hl 8 rfl) ?_
                refine lv_iload hx hb dL_hands_215 (lv_at hl 7 rfl) ?_
                refine lv_iconst (v := 0) hx hb dL_hands_217 (by decide) ?_
                refine cl_O (Φ := (fun w9 => OB y h T z [] (some z) s1 w9)) (vx_runSX (As := [.ref h, .int (x - x / 4 * 4), .int (1 + ((x / 4) - (x / 4) / 60 * 60)), .int 0]) (rest := []) ⟨hx, hb, hml, hown, hts⟩ (w_outcome l G y h (x - x / 4 * 4) (1 + ((x / 4) - (x / 4) / 60 * 60)) 0 w T z [] (some z) s1 H.size hO hz  hfl) (vx_cwSW 4 hts gL_hands_L_tryOutcome rfl rfl rfl (by decide +kernel) ⟨Nat.le_of_ble_eq_true rfl, Nat.le_of_ble_eq_true rfl⟩) (PHZ_S hP hK hN hD hTY hS (F_0 hD hS hA)) rfl rfl hl.1 rfl (lv_room (Nat.le_of_ble_eq_true rfl)) dL_hands_218 ⟨Nat.le_of_ble_eq_true rfl, Nat.le_of_ble_eq_true rfl⟩) hD hS hA (fun w H locs hO hP hD hS => ?_)
                refine lv_istore (lv' := [(15, .int (qOut (x - x / 4 * 4) (1 + ((x / 4) - (x / 4) / 60 * 60)) 0 z)), (9, .int 1), (14, .int (qBest (1 + ((x / 4) - (x / 4) / 60 * 60)) z)), (13, .int (qOut (x - x / 4 * 4) (1 + ((x / 4) - (x / 4) / 60 * 60)) 4 z)), (12, .int (qProp (x - x / 4 * 4) 2 z)), (11, .int (qProp (x - x / 4 * 4) 1 z)), (10, .int (qProp (x - x / 4 * 4) 0 z)), (8, .int (qAbout 11 z)), (7, .int (1 + ((x / 4) - (x / 4) / 60 * 60))), (6, .int (x - x / 4 * 4)), (5, .int (qAbout 18 z)), (4, .int (qAbout 17 z)), (3, .int (qAbout 16 z)), (2, .int (qAbout 13 z)), (0, .ref h), (1, .int x)]) hx hb dL_hands_221 hl (by decide) rfl (fun ls hl => ?_)
                refine lv_aload_n hx hb dL_hands_223 rfl (lv_at hl 14 rfl) ?_
                refine lv_iload hx hb dL_hands_224 (lv_at hl 2 rfl) ?_
                refine lv_iload hx hb dL_hands_226 (lv_at hl 8 rfl) ?_
                refine lv_iconst (v := 4) hx hb dL_hands_228 (by decide) ?_
                refine cl_O (Φ := (fun w9 => OB y h T z [] (some z) s1 w9)) (vx_runSX (As := [.ref h, .int (qBest (1 + ((x / 4) - (x / 4) / 60 * 60)) z), .int (1 + ((x / 4) - (x / 4) / 60 * 60)), .int 4]) (rest := []) ⟨hx, hb, hml, hown, hts⟩ (w_outcome l G y h (qBest (1 + ((x / 4) - (x / 4) / 60 * 60)) z) (1 + ((x / 4) - (x / 4) / 60 * 60)) 4 w T z [] (some z) s1 H.size hO hz  hfl) (vx_cwSW 4 hts gL_hands_L_tryOutcome rfl rfl rfl (by decide +kernel) ⟨Nat.le_of_ble_eq_true rfl, Nat.le_of_ble_eq_true rfl⟩) (PHZ_S hP hK hN hD hTY hS (F_0 hD hS hA)) rfl rfl hl.1 rfl (lv_room (Nat.le_of_ble_eq_true rfl)) dL_hands_229 ⟨Nat.le_of_ble_eq_true rfl, Nat.le_of_ble_eq_true rfl⟩) hD hS hA (fun w H locs hO hP hD hS => ?_)
                refine lv_istore (lv' := [(16, .int (qOut (qBest (1 + ((x / 4) - (x / 4) / 60 * 60)) z) (1 + ((x / 4) - (x / 4) / 60 * 60)) 4 z)), (15, .int (qOut (x - x / 4 * 4) (1 + ((x / 4) - (x / 4) / 60 * 60)) 0 z)), (9, .int 1), (14, .int (qBest (1 + ((x / 4) - (x / 4) / 60 * 60)) z)), (13, .int (qOut (x - x / 4 * 4) (1 + ((x / 4) - (x / 4) / 60 * 60)) 4 z)), (12, .int (qProp (x - x / 4 * 4) 2 z)), (11, .int (qProp (x - x / 4 * 4) 1 z)), (10, .int (qProp (x - x / 4 * 4) 0 z)), (8, .int (qAbout 11 z)), (7, .int (1 + ((x / 4) - (x / 4) / 60 * 60))), (6, .int (x - x / 4 * 4)), (5, .int (qAbout 18 z)), (4, .int (qAbout 17 z)), (3, .int (qAbout 16 z)), (2, .int (qAbout 13 z)), (0, .ref h), (1, .int x)]) hx hb dL_hands_232 hl (by decide) rfl (fun ls hl => ?_)
                refine lv_iload hx hb dL_hands_234 (lv_at hl 7 rfl) ?_
                refine lv_if_lt (tgt := 364) hx hb dL_hands_236 (by decide) (fun c9 => absurd c9 (f_236 c_24)) (fun _ => ?_)
                refine lv_iload hx hb dL_hands_239 (lv_at hl 6 rfl) ?_
                refine lv_if_lt (tgt := 364) hx hb dL_hands_241 (by decide) (fun c9 => absurd c9 (f_241 c_24)) (fun _ => ?_)
                refine lv_iload hx hb dL_hands_244 (lv_at hl 5 rfl) ?_
                refine lv_if_lt (tgt := 364) hx hb dL_hands_246 (by decide) (fun c9 => absurd c9 (f_246 c_24)) (fun _ => ?_)
                refine lv_iload hx hb dL_hands_249 (lv_at hl 7 rfl) ?_
                refine lv_sipush (v := 9999) hx hb dL_hands_251 (by decide) ?_
                refine lv_icmp_gt (tgt := 364) hx hb dL_hands_254 (by decide) (fun c9 => absurd c9 (f_254 c_24)) (fun _ => ?_)
                refine lv_iload hx hb dL_hands_257 (lv_at hl 6 rfl) ?_
                refine lv_sipush (v := 9999) hx hb dL_hands_259 (by decide) ?_
                refine lv_icmp_gt (tgt := 364) hx hb dL_hands_262 (by decide) (fun c9 => absurd c9 (f_262 c_24)) (fun _ => ?_)
                refine lv_iload hx hb dL_hands_265 (lv_at hl 5 rfl) ?_
                refine lv_sipush (v := 9999) hx hb dL_hands_267 (by decide) ?_
                refine lv_icmp_gt (tgt := 364) hx hb dL_hands_270 (by decide) (fun c9 => absurd c9 (f_270 c_24)) (fun _ => ?_)
                refine lv_iload hx hb dL_hands_273 (lv_at hl 10 rfl) ?_
                refine lv_iconst (v := 1) hx hb dL_hands_275 (by decide) ?_
                have J284_81 : ∀  (w : va_W) (hO : OB y h T z [] (some z) s1 w) (H : Heap) (locs : List Loc) (hP : va_P G vwCl w H) (hD : va_D A w) (hS : va_S A s.heap H locs) (ls : Array Slot) (hl : lv_has ls 23 [(16, .int (qOut (qBest (1 + ((x / 4) - (x / 4) / 60 * 60)) z) (1 + ((x / 4) - (x / 4) / 60 * 60)) 4 z)), (15, .int (qOut (x - x / 4 * 4) (1 + ((x / 4) - (x / 4) / 60 * 60)) 0 z)), (14, .int (qBest (1 + ((x / 4) - (x / 4) / 60 * 60)) z)), (13, .int (qOut (x - x / 4 * 4) (1 + ((x / 4) - (x / 4) / 60 * 60)) 4 z)), (12, .int (qProp (x - x / 4 * 4) 2 z)), (11, .int (qProp (x - x / 4 * 4) 1 z)), (10, .int (qProp (x - x / 4 * 4) 0 z)), (8, .int (qAbout 11 z)), (7, .int (1 + ((x / 4) - (x / 4) / 60 * 60))), (6, .int (x - x / 4 * 4)), (5, .int (qAbout 18 z)), (3, .int (qAbout 16 z)), (2, .int (qAbout 13 z)), (0, .ref h), (1, .int x)]), W p l e (headSpec wsL_hands rmL_hands).room s m ([.ref h, .int x] : List Value).toArray below meth c H locs 13 78 QQ (F0 m 284 ls []) := by
                  intro w hO H locs hP hD hS ls hl
                  refine lv_iload hx hb dL_hands_284 (lv_at hl 9 rfl) ?_
                  have J294_83 : ∀  (w : va_W) (hO : OB y h T z [] (some z) s1 w) (H : Heap) (locs : List Loc) (hP : va_P G vwCl w H) (hD : va_D A w) (hS : va_S A s.heap H locs) (ls : Array Slot) (hl : lv_has ls 23 [(16, .int (qOut (qBest (1 + ((x / 4) - (x / 4) / 60 * 60)) z) (1 + ((x / 4) - (x / 4) / 60 * 60)) 4 z)), (15, .int (qOut (x - x / 4 * 4) (1 + ((x / 4) - (x / 4) / 60 * 60)) 0 z)), (14, .int (qBest (1 + ((x / 4) - (x / 4) / 60 * 60)) z)), (13, .int (qOut (x - x / 4 * 4) (1 + ((x / 4) - (x / 4) / 60 * 60)) 4 z)), (12, .int (qProp (x - x / 4 * 4) 2 z)), (11, .int (qProp (x - x / 4 * 4) 1 z)), (10, .int (qProp (x - x / 4 * 4) 0 z)), (8, .int (qAbout 11 z)), (7, .int (1 + ((x / 4) - (x / 4) / 60 * 60))), (6, .int (x - x / 4 * 4)), (5, .int (qAbout 18 z)), (3, .int (qAbout 16 z)), (2, .int (qAbout 13 z)), (0, .ref h), (1, .int x)]), W p l e (headSpec wsL_hands rmL_hands).room s m ([.ref h, .int x] : List Value).toArray below meth c H locs 13 78 QQ (F0 m 294 ls []) := by
                    intro w hO H locs hP hD hS ls hl
                    refine lv_iload hx hb dL_hands_294 (lv_at hl 0 rfl) ?_
                    refine lv_iload hx hb dL_hands_296 (lv_at hl 3 rfl) ?_
                    have J315_85 : ∀  (w : va_W) (hO : OB y h T z [] (some z) s1 w) (H : Heap) (locs : List Loc) (hP : va_P G vwCl w H) (hD : va_D A w) (hS : va_S A s.heap H locs) (ls : Array Slot) (hl : lv_has ls 23 [(15, .int (qOut (x - x / 4 * 4) (1 + ((x / 4) - (x / 4) / 60 * 60)) 0 z)), (13, .int (qOut (x - x / 4 * 4) (1 + ((x / 4) - (x / 4) / 60 * 60)) 4 z)), (12, .int (qProp (x - x / 4 * 4) 2 z)), (11, .int (qProp (x - x / 4 * 4) 1 z)), (10, .int (qProp (x - x / 4 * 4) 0 z)), (8, .int (qAbout 11 z)), (7, .int (1 + ((x / 4) - (x / 4) / 60 * 60))), (6, .int (x - x / 4 * 4)), (5, .int (qAbout 18 z)), (3, .int (qAbout 16 z)), (2, .int (qAbout 13 z)), (0, .ref h), (1, .int x)]), W p l e (headSpec wsL_hands rmL_hands).room s m ([.ref h, .int x] : List Value).toArray below meth c H locs 13 78 QQ (F0 m 315 ls []) := by
                      intro w hO H locs hP hD hS ls hl
                      refine lv_aload_n hx hb dL_hands_315 rfl (lv_at hl 11 rfl) ?_
                      refine lv_iconst (v := 3) hx hb dL_hands_316 (by decide) ?_
                      refine lv_iconst (v := 0) hx hb dL_hands_317 (by decide) ?_
                      refine cl_O (Φ := (fun w9 => OB y h T z [] (some z) s1 w9)) (vx_runSX (As := [.ref h, .int 3, .int 0]) (rest := []) ⟨hx, hb, hml, hown, hts⟩ (w_proposal l G y h 3 0 w T z [] (some z) s1 H.size hO hz  hfl) (vx_cwSW 3 hts gL_hands_L_tryProposal rfl rfl rfl (by decide +kernel) ⟨Nat.le_of_ble_eq_true rfl, Nat.le_of_ble_eq_true rfl⟩) (PHZ_S hP hK hN hD hTY hS (F_0 hD hS hA)) rfl rfl hl.1 rfl (lv_room (Nat.le_of_ble_eq_true rfl)) dL_hands_318 ⟨Nat.le_of_ble_eq_true rfl, Nat.le_of_ble_eq_true rfl⟩) hD hS hA (fun w H locs hO hP hD hS => ?_)
                      refine lv_aload_n hx hb dL_hands_321 rfl (lv_at hl 11 rfl) ?_
                      refine lv_iconst (v := 1) hx hb dL_hands_322 (by decide) ?_
                      refine lv_iconst (v := 0) hx hb dL_hands_323 (by decide) ?_
                      refine cl_O (Φ := (fun w9 => OB y h T z [] (some z) s1 w9)) (vx_runSX (As := [.ref h, .int 1, .int 0]) (rest := [.int (qProp 3 0 z)]) ⟨hx, hb, hml, hown, hts⟩ (w_proposal l G y h 1 0 w T z [] (some z) s1 H.size hO hz  hfl) (vx_cwSW 3 hts gL_hands_L_tryProposal rfl rfl rfl (by decide +kernel) ⟨Nat.le_of_ble_eq_true rfl, Nat.le_of_ble_eq_true rfl⟩) (PHZ_S hP hK hN hD hTY hS (F_0 hD hS hA)) rfl rfl hl.1 rfl (lv_room (Nat.le_of_ble_eq_true rfl)) dL_hands_324 ⟨Nat.le_of_ble_eq_true rfl, Nat.le_of_ble_eq_true rfl⟩) hD hS hA (fun w H locs hO hP hD hS => ?_)
                      refine lv_icmp_gt (tgt := 364) hx hb dL_hands_327 (by decide) (fun c9 => absurd c9 (f_327 c_24)) (fun _ => ?_)
                      refine lv_aload_n hx hb dL_hands_330 rfl (lv_at hl 11 rfl) ?_
                      refine lv_iconst (v := 1) hx hb dL_hands_331 (by decide) ?_
                      refine lv_iconst (v := 0) hx hb dL_hands_332 (by decide) ?_
                      refine cl_O (Φ := (fun w9 => OB y h T z [] (some z) s1 w9)) (vx_runSX (As := [.ref h, .int 1, .int 0]) (rest := []) ⟨hx, hb, hml, hown, hts⟩ (w_proposal l G y h 1 0 w T z [] (some z) s1 H.size hO hz  hfl) (vx_cwSW 3 hts gL_hands_L_tryProposal rfl rfl rfl (by decide +kernel) ⟨Nat.le_of_ble_eq_true rfl, Nat.le_of_ble_eq_true rfl⟩) (PHZ_S hP hK hN hD hTY hS (F_0 hD hS hA)) rfl rfl hl.1 rfl (lv_room (Nat.le_of_ble_eq_true rfl)) dL_hands_333 ⟨Nat.le_of_ble_eq_true rfl, Nat.le_of_ble_eq_true rfl⟩) hD hS hA (fun w H locs hO hP hD hS => ?_)
                      refine lv_aload_n hx hb dL_hands_336 rfl (lv_at hl 11 rfl) ?_
                      refine lv_iconst (v := 0) hx hb dL_hands_337 (by decide) ?_
                      refine lv_iconst (v := 0) hx hb dL_hands_338 (by decide) ?_
                      refine cl_O (Φ := (fun w9 => OB y h T z [] (some z) s1 w9)) (vx_runSX (As := [.ref h, .int 0, .int 0]) (rest := [.int (qProp 1 0 z)]) ⟨hx, hb, hml, hown, hts⟩ (w_proposal l G y h 0 0 w T z [] (some z) s1 H.size hO hz  hfl) (vx_cwSW 3 hts gL_hands_L_tryProposal rfl rfl rfl (by decide +kernel) ⟨Nat.le_of_ble_eq_true rfl, Nat.le_of_ble_eq_true rfl⟩) (PHZ_S hP hK hN hD hTY hS (F_0 hD hS hA)) rfl rfl hl.1 rfl (lv_room (Nat.le_of_ble_eq_true rfl)) dL_hands_339 ⟨Nat.le_of_ble_eq_true rfl, Nat.le_of_ble_eq_true rfl⟩) hD hS hA (fun w H locs hO hP hD hS => ?_)
                      refine lv_icmp_gt (tgt := 364) hx hb dL_hands_342 (by decide) (fun c9 => absurd c9 (f_342 c_24)) (fun _ => ?_)
                      refine lv_aload_n hx hb dL_hands_345 rfl (lv_at hl 11 rfl) ?_
                      refine lv_iconst (v := 0) hx hb dL_hands_346 (by decide) ?_
                      refine lv_iconst (v := 0) hx hb dL_hands_347 (by decide) ?_
                      refine cl_O (Φ := (fun w9 => OB y h T z [] (some z) s1 w9)) (vx_runSX (As := [.ref h, .int 0, .int 0]) (rest := []) ⟨hx, hb, hml, hown, hts⟩ (w_proposal l G y h 0 0 w T z [] (some z) s1 H.size hO hz  hfl) (vx_cwSW 3 hts gL_hands_L_tryProposal rfl rfl rfl (by decide +kernel) ⟨Nat.le_of_ble_eq_true rfl, Nat.le_of_ble_eq_true rfl⟩) (PHZ_S hP hK hN hD hTY hS (F_0 hD hS hA)) rfl rfl hl.1 rfl (lv_room (Nat.le_of_ble_eq_true rfl)) dL_hands_348 ⟨Nat.le_of_ble_eq_true rfl, Nat.le_of_ble_eq_true rfl⟩) hD hS hA (fun w H locs hO hP hD hS => ?_)
                      refine lv_aload_n hx hb dL_hands_351 rfl (lv_at hl 11 rfl) ?_
                      refine lv_iconst (v := 2) hx hb dL_hands_352 (by decide) ?_
                      refine lv_iconst (v := 0) hx hb dL_hands_353 (by decide) ?_
                      refine cl_O (Φ := (fun w9 => OB y h T z [] (some z) s1 w9)) (vx_runSX (As := [.ref h, .int 2, .int 0]) (rest := [.int (qProp 0 0 z)]) ⟨hx, hb, hml, hown, hts⟩ (w_proposal l G y h 2 0 w T z [] (some z) s1 H.size hO hz  hfl) (vx_cwSW 3 hts gL_hands_L_tryProposal rfl rfl rfl (by decide +kernel) ⟨Nat.le_of_ble_eq_true rfl, Nat.le_of_ble_eq_true rfl⟩) (PHZ_S hP hK hN hD hTY hS (F_0 hD hS hA)) rfl rfl hl.1 rfl (lv_room (Nat.le_of_ble_eq_true rfl)) dL_hands_354 ⟨Nat.le_of_ble_eq_true rfl, Nat.le_of_ble_eq_true rfl⟩) hD hS hA (fun w H locs hO hP hD hS => ?_)
                      refine lv_icmp_gt (tgt := 364) hx hb dL_hands_357 (by decide) (fun c9 => absurd c9 (f_357 c_24)) (fun _ => ?_)
                      refine lv_iconst (v := 1) hx hb dL_hands_360 (by decide) ?_
                      refine lv_goto (tgt := 365) hx hb dL_hands_361 (by decide) ?_
                      refine lv_istore (lv' := [(9, .int 1), (15, .int (qOut (x - x / 4 * 4) (1 + ((x / 4) - (x / 4) / 60 * 60)) 0 z)), (13, .int (qOut (x - x / 4 * 4) (1 + ((x / 4) - (x / 4) / 60 * 60)) 4 z)), (12, .int (qProp (x - x / 4 * 4) 2 z)), (11, .int (qProp (x - x / 4 * 4) 1 z)), (10, .int (qProp (x - x / 4 * 4) 0 z)), (8, .int (qAbout 11 z)), (7, .int (1 + ((x / 4) - (x / 4) / 60 * 60))), (6, .int (x - x / 4 * 4)), (5, .int (qAbout 18 z)), (3, .int (qAbout 16 z)), (2, .int (qAbout 13 z)), (0, .ref h), (1, .int x)]) hx hb dL_hands_365 hl (by decide) rfl (fun ls hl => ?_)
                      refine lv_aload_n hx hb dL_hands_367 rfl (lv_at hl 12 rfl) ?_
                      refine lv_bipush (v := 8) hx hb dL_hands_368 (by decide) ?_
                      refine cl_O (Φ := (fun w9 => OB y h T z [] (some z) s1 w9)) (vx_runSX (As := [.ref h, .int 8]) (rest := []) ⟨hx, hb, hml, hown, hts⟩ (w_about l G y h 8 w T z [] (some z) s1 H.size hO hz  hfl) (vx_cwSW 2 hts gL_hands_L_tryAbout rfl rfl rfl (by decide +kernel) ⟨Nat.le_of_ble_eq_true rfl, Nat.le_of_ble_eq_true rfl⟩) (PHZ_S hP hK hN hD hTY hS (F_0 hD hS hA)) rfl rfl hl.1 rfl (lv_room (Nat.le_of_ble_eq_true rfl)) dL_hands_370 ⟨Nat.le_of_ble_eq_true rfl, Nat.le_of_ble_eq_true rfl⟩) hD hS hA (fun w H locs hO hP hD hS => ?_)
                      refine lv_istore (lv' := [(17, .int (qAbout 8 z)), (9, .int 1), (15, .int (qOut (x - x / 4 * 4) (1 + ((x / 4) - (x / 4) / 60 * 60)) 0 z)), (13, .int (qOut (x - x / 4 * 4) (1 + ((x / 4) - (x / 4) / 60 * 60)) 4 z)), (12, .int (qProp (x - x / 4 * 4) 2 z)), (11, .int (qProp (x - x / 4 * 4) 1 z)), (10, .int (qProp (x - x / 4 * 4) 0 z)), (8, .int (qAbout 11 z)), (7, .int (1 + ((x / 4) - (x / 4) / 60 * 60))), (6, .int (x - x / 4 * 4)), (5, .int (qAbout 18 z)), (3, .int (qAbout 16 z)), (2, .int (qAbout 13 z)), (0, .ref h), (1, .int x)]) hx hb dL_hands_373 hl (by decide) rfl (fun ls hl => ?_)
                      refine lv_aload_n hx hb dL_hands_375 rfl (lv_at hl 13 rfl) ?_
                      refine lv_bipush (v := 9) hx hb dL_hands_376 (by decide) ?_
                      refine cl_O (Φ := (fun w9 => OB y h T z [] (some z) s1 w9)) (vx_runSX (As := [.ref h, .int 9]) (rest := []) ⟨hx, hb, hml, hown, hts⟩ (w_about l G y h 9 w T z [] (some z) s1 H.size hO hz  hfl) (vx_cwSW 2 hts gL_hands_L_tryAbout rfl rfl rfl (by decide +kernel) ⟨Nat.le_of_ble_eq_true rfl, Nat.le_of_ble_eq_true rfl⟩) (PHZ_S hP hK hN hD hTY hS (F_0 hD hS hA)) rfl rfl hl.1 rfl (lv_room (Nat.le_of_ble_eq_true rfl)) dL_hands_378 ⟨Nat.le_of_ble_eq_true rfl, Nat.le_of_ble_eq_true rfl⟩) hD hS hA (fun w H locs hO hP hD hS => ?_)
                      refine lv_istore (lv' := [(18, .int (qAbout 9 z)), (17, .int (qAbout 8 z)), (9, .int 1), (15, .int (qOut (x - x / 4 * 4) (1 + ((x / 4) - (x / 4) / 60 * 60)) 0 z)), (13, .int (qOut (x - x / 4 * 4) (1 + ((x / 4) - (x / 4) / 60 * 60)) 4 z)), (12, .int (qProp (x - x / 4 * 4) 2 z)), (11, .int (qProp (x - x / 4 * 4) 1 z)), (10, .int (qProp (x - x / 4 * 4) 0 z)), (8, .int (qAbout 11 z)), (7, .int (1 + ((x / 4) - (x / 4) / 60 * 60))), (6, .int (x - x / 4 * 4)), (5, .int (qAbout 18 z)), (3, .int (qAbout 16 z)), (2, .int (qAbout 13 z)), (0, .ref h), (1, .int x)]) hx hb dL_hands_381 hl (by decide) rfl (fun ls hl => ?_)
                      refine lv_aload_n hx hb dL_hands_383 rfl (lv_at hl 14 rfl) ?_
                      refine lv_bipush (v := 10) hx hb dL_hands_384 (by decide) ?_
                      refine cl_O (Φ := (fun w9 => OB y h T z [] (some z) s1 w9)) (vx_runSX (As := [.ref h, .int 10]) (rest := []) ⟨hx, hb, hml, hown, hts⟩ (w_about l G y h 10 w T z [] (some z) s1 H.size hO hz  hfl) (vx_cwSW 2 hts gL_hands_L_tryAbout rfl rfl rfl (by decide +kernel) ⟨Nat.le_of_ble_eq_true rfl, Nat.le_of_ble_eq_true rfl⟩) (PHZ_S hP hK hN hD hTY hS (F_0 hD hS hA)) rfl rfl hl.1 rfl (lv_room (Nat.le_of_ble_eq_true rfl)) dL_hands_386 ⟨Nat.le_of_ble_eq_true rfl, Nat.le_of_ble_eq_true rfl⟩) hD hS hA (fun w H locs hO hP hD hS => ?_)
                      refine lv_istore (lv' := [(19, .int (qAbout 10 z)), (18, .int (qAbout 9 z)), (17, .int (qAbout 8 z)), (9, .int 1), (15, .int (qOut (x - x / 4 * 4) (1 + ((x / 4) - (x / 4) / 60 * 60)) 0 z)), (13, .int (qOut (x - x / 4 * 4) (1 + ((x / 4) - (x / 4) / 60 * 60)) 4 z)), (12, .int (qProp (x - x / 4 * 4) 2 z)), (11, .int (qProp (x - x / 4 * 4) 1 z)), (10, .int (qProp (x - x / 4 * 4) 0 z)), (8, .int (qAbout 11 z)), (7, .int (1 + ((x / 4) - (x / 4) / 60 * 60))), (6, .int (x - x / 4 * 4)), (5, .int (qAbout 18 z)), (3, .int (qAbout 16 z)), (2, .int (qAbout 13 z)), (0, .ref h), (1, .int x)]) hx hb dL_hands_389 hl (by decide) rfl (fun ls hl => ?_)
                      refine lv_iload hx hb dL_hands_391 (lv_at hl 12 rfl) ?_
                      refine lv_bipush (v := 8) hx hb dL_hands_393 (by decide) ?_
                      refine lv_icmp_ge (tgt := 668) hx hb dL_hands_395 (by decide) (fun c_89 => ?_) (fun c_89 => ?_)
                      · refine W.widen (k := 532) (n := 3192) (by omega) (by omega) ?_
                        exact J668_25 w hO H locs hP hD hS ls (lv_sub hl [3, 13, 14, 15, 16] rfl)
                      · refine lv_iload hx hb dL_hands_398 (lv_at hl 3 rfl) ?_
                        refine lv_if_eq (tgt := 668) hx hb dL_hands_400 (by decide) (fun c_90 => (by first | exact absurd c_90 (by decide : ¬ ((1 : Int32) = 0)) | exact absurd (by decide : ¬ ((1 : Int32) = 0)) c_90)) (fun _ => ?_)
                        refine lv_aload_n hx hb dL_hands_403 rfl (lv_at hl 15 rfl) ?_
                        refine lv_iload hx hb dL_hands_404 (lv_at hl 11 rfl) ?_
                        refine cl_O (Φ := (fun w9 => (s_X11_tryRule_k (x - x / 4 * 4) z = 0 ∧ OB y h T (s_X11_tryRule_z (x - x / 4 * 4) z) (hpu z []) (some z) s1 w9) ∨ (¬ s_X11_tryRule_k (x - x / 4 * 4) z = 0 ∧ OB y h T z [] (some z) s1 w9))) (vx_runSX (As := [.ref h, .int (x - x / 4 * 4)]) (rest := []) ⟨hx, hb, hml, hown, hts⟩ (w_tryRule l G y h (x - x / 4 * 4) w T z [] (some z) s1 H.size hO hz  hfl) (vx_cwSW 2 hts gL_hands_L_tryRule rfl rfl rfl (by decide +kernel) ⟨Nat.le_of_ble_eq_true rfl, Nat.le_of_ble_eq_true rfl⟩) (PHZ_S hP hK hN hD hTY hS (F_0 hD hS hA)) rfl rfl hl.1 rfl (lv_room (Nat.le_of_ble_eq_true rfl)) dL_hands_406 ⟨Nat.le_of_ble_eq_true rfl, Nat.le_of_ble_eq_true rfl⟩) hD hS hA (fun w H locs hO hP hD hS => ?_)
                        have hO : OB y h T (s_X11_tryRule_z (x - x / 4 * 4) z) (hpu z []) (some z) s1 w := oy (k_406 c_24 c_89) hO
                        have hz : TS (s_X11_tryRule_z (x - x / 4 * 4) z) := (t_406 c_24 c_89)
                        refine lv_iload hx hb dL_hands_409 (lv_at hl 8 rfl) ?_
                        refine lv_icmp_ne (tgt := 593) hx hb dL_hands_411 (by decide) (fun c9 => absurd (f_411 c_24 c_89) c9) (fun _ => ?_)
                        refine lv_aload_n hx hb dL_hands_414 rfl (lv_at hl 15 rfl) ?_
                        refine lv_bipush (v := 8) hx hb dL_hands_415 (by decide) ?_
                        refine cl_O (Φ := (fun w9 => OB y h T (s_X11_tryRule_z (x - x / 4 * 4) z) (hpu z []) (some z) s1 w9)) (vx_runSX (As := [.ref h, .int 8]) (rest := []) ⟨hx, hb, hml, hown, hts⟩ (w_about l G y h 8 w T (s_X11_tryRule_z (x - x / 4 * 4) z) (hpu z []) (some z) s1 H.size hO hz  hfl) (vx_cwSW 2 hts gL_hands_L_tryAbout rfl rfl rfl (by decide +kernel) ⟨Nat.le_of_ble_eq_true rfl, Nat.le_of_ble_eq_true rfl⟩) (PHZ_S hP hK hN hD hTY hS (F_0 hD hS hA)) rfl rfl hl.1 rfl (lv_room (Nat.le_of_ble_eq_true rfl)) dL_hands_417 ⟨Nat.le_of_ble_eq_true rfl, Nat.le_of_ble_eq_true rfl⟩) hD hS hA (fun w H locs hO hP hD hS => ?_)
                        refine lv_iload hx hb dL_hands_420 (lv_at hl 8 rfl) ?_
                        refine lv_icmp_ne (tgt := 593) hx hb dL_hands_422 (by decide) (fun c9 => absurd (f_422 c_24 c_89) c9) (fun _ => ?_)
                        refine lv_aload_n hx hb dL_hands_425 rfl (lv_at hl 15 rfl) ?_
                        refine lv_bipush (v := 9) hx hb dL_hands_426 (by decide) ?_
                        refine cl_O (Φ := (fun w9 => OB y h T (s_X11_tryRule_z (x - x / 4 * 4) z) (hpu z []) (some z) s1 w9)) (vx_runSX (As := [.ref h, .int 9]) (rest := []) ⟨hx, hb, hml, hown, hts⟩ (w_about l G y h 9 w T (s_X11_tryRule_z (x - x / 4 * 4) z) (hpu z []) (some z) s1 H.size hO hz  hfl) (vx_cwSW 2 hts gL_hands_L_tryAbout rfl rfl rfl (by decide +kernel) ⟨Nat.le_of_ble_eq_true rfl, Nat.le_of_ble_eq_true rfl⟩) (PHZ_S hP hK hN hD hTY hS (F_0 hD hS hA)) rfl rfl hl.1 rfl (lv_room (Nat.le_of_ble_eq_true rfl)) dL_hands_428 ⟨Nat.le_of_ble_eq_true rfl, Nat.le_of_ble_eq_true rfl⟩) hD hS hA (fun w H locs hO hP hD hS => ?_)
                        refine lv_iload hx hb dL_hands_431 (lv_at hl 7 rfl) ?_
                        refine lv_icmp_ne (tgt := 593) hx hb dL_hands_433 (by decide) (fun c9 => absurd (f_433 c_24 c_89) c9) (fun _ => ?_)
                        refine lv_aload_n hx hb dL_hands_436 rfl (lv_at hl 15 rfl) ?_
                        refine lv_bipush (v := 10) hx hb dL_hands_437 (by decide) ?_
                        refine cl_O (Φ := (fun w9 => OB y h T (s_X11_tryRule_z (x - x / 4 * 4) z) (hpu z []) (some z) s1 w9)) (vx_runSX (As := [.ref h, .int 10]) (rest := []) ⟨hx, hb, hml, hown, hts⟩ (w_about l G y h 10 w T (s_X11_tryRule_z (x - x / 4 * 4) z) (hpu z []) (some z) s1 H.size hO hz  hfl) (vx_cwSW 2 hts gL_hands_L_tryAbout rfl rfl rfl (by decide +kernel) ⟨Nat.le_of_ble_eq_true rfl, Nat.le_of_ble_eq_true rfl⟩) (PHZ_S hP hK hN hD hTY hS (F_0 hD hS hA)) rfl rfl hl.1 rfl (lv_room (Nat.le_of_ble_eq_true rfl)) dL_hands_439 ⟨Nat.le_of_ble_eq_true rfl, Nat.le_of_ble_eq_true rfl⟩) hD hS hA (fun w H locs hO hP hD hS => ?_)
                        refine lv_iload hx hb dL_hands_442 (lv_at hl 6 rfl) ?_
                        refine lv_icmp_ne (tgt := 593) hx hb dL_hands_444 (by decide) (fun c9 => absurd (f_444 c_24 c_89) c9) (fun _ => ?_)
                        refine lv_aload_n hx hb dL_hands_447 rfl (lv_at hl 15 rfl) ?_
                        refine lv_bipush (v := 11) hx hb dL_hands_448 (by decide) ?_
                        refine cl_O (Φ := (fun w9 => OB y h T (s_X11_tryRule_z (x - x / 4 * 4) z) (hpu z []) (some z) s1 w9)) (vx_runSX (As := [.ref h, .int 11]) (rest := []) ⟨hx, hb, hml, hown, hts⟩ (w_about l G y h 11 w T (s_X11_tryRule_z (x - x / 4 * 4) z) (hpu z []) (some z) s1 H.size hO hz  hfl) (vx_cwSW 2 hts gL_hands_L_tryAbout rfl rfl rfl (by decide +kernel) ⟨Nat.le_of_ble_eq_true rfl, Nat.le_of_ble_eq_true rfl⟩) (PHZ_S hP hK hN hD hTY hS (F_0 hD hS hA)) rfl rfl hl.1 rfl (lv_room (Nat.le_of_ble_eq_true rfl)) dL_hands_450 ⟨Nat.le_of_ble_eq_true rfl, Nat.le_of_ble_eq_true rfl⟩) hD hS hA (fun w H locs hO hP hD hS => ?_)
                        refine lv_iconst (v := 2) hx hb dL_hands_453 (by decide) ?_
                        refine lv_icmp_ne (tgt := 593) hx hb dL_hands_454 (by decide) (fun c9 => absurd (f_454 c_24 c_89) c9) (fun _ => ?_)
                        refine lv_aload_n hx hb dL_hands_457 rfl (lv_at hl 15 rfl) ?_
                        refine lv_bipush (v := 18) hx hb dL_hands_458 (by decide) ?_
                        refine cl_O (Φ := (fun w9 => OB y h T (s_X11_tryRule_z (x - x / 4 * 4) z) (hpu z []) (some z) s1 w9)) (vx_runSX (As := [.ref h, .int 18]) (rest := []) ⟨hx, hb, hml, hown, hts⟩ (w_about l G y h 18 w T (s_X11_tryRule_z (x - x / 4 * 4) z) (hpu z []) (some z) s1 H.size hO hz  hfl) (vx_cwSW 2 hts gL_hands_L_tryAbout rfl rfl rfl (by decide +kernel) ⟨Nat.le_of_ble_eq_true rfl, Nat.le_of_ble_eq_true rfl⟩) (PHZ_S hP hK hN hD hTY hS (F_0 hD hS hA)) rfl rfl hl.1 rfl (lv_room (Nat.le_of_ble_eq_true rfl)) dL_hands_460 ⟨Nat.le_of_ble_eq_true rfl, Nat.le_of_ble_eq_true rfl⟩) hD hS hA (fun w H locs hO hP hD hS => ?_)
                        refine lv_iload hx hb dL_hands_463 (lv_at hl 12 rfl) ?_
                        refine lv_iconst (v := 1) hx hb dL_hands_465 (by decide) ?_
                        refine lv_iadd hx hb dL_hands_466 ?_
                        refine lv_icmp_ne (tgt := 593) hx hb dL_hands_467 (by decide) (fun c9 => absurd (f_467 c_24 c_89) c9) (fun _ => ?_)
                        refine lv_aload_n hx hb dL_hands_470 rfl (lv_at hl 15 rfl) ?_
                        refine cl_OM (Φ := (fun w9 => OB y h T (s_X11_tryRule_z (x - x / 4 * 4) z) (hpu z []) (some z) s1 w9)) (va_runS (As := [.ref h]) (rest := []) ⟨hx, hb, hml, hown, hts⟩ (c_L_sound l G y h w T (s_X11_tryRule_z (x - x / 4 * 4) z) (hpu z []) (some z) s1 H.size hO hz (m_471 c_24 c_89) hfl) (va_cwS 1 hts gL_hands_L_sound rfl rfl rfl (by decide +kernel) ⟨Nat.le_of_ble_eq_true rfl, Nat.le_of_ble_eq_true rfl⟩) (PHZ_S hP hK hN hD hTY hS (F_0 hD hS hA)) rfl rfl hl.1 rfl (lv_room (Nat.le_of_ble_eq_true rfl)) dL_hands_471 ⟨Nat.le_of_ble_eq_true rfl, Nat.le_of_ble_eq_true rfl⟩) hD hS hA (fun w H locs hO hP hD hS => ?_)
                        refine lv_if_eq (tgt := 593) hx hb dL_hands_474 (by decide) (fun c_97 => (by first | exact absurd c_97 (by decide : ¬ ((1 : Int32) = 0)) | exact absurd (by decide : ¬ ((1 : Int32) = 0)) c_97)) (fun _ => ?_)
                        refine lv_aload_n hx hb dL_hands_477 rfl (lv_at hl 15 rfl) ?_
                        refine lv_iload hx hb dL_hands_478 (lv_at hl 10 rfl) ?_
                        refine lv_iconst (v := 4) hx hb dL_hands_480 (by decide) ?_
                        refine cl_O (Φ := (fun w9 => OB y h T (s_X11_tryRule_z (x - x / 4 * 4) z) (hpu z []) (some z) s1 w9)) (vx_runSX (As := [.ref h, .int (1 + ((x / 4) - (x / 4) / 60 * 60)), .int 4]) (rest := []) ⟨hx, hb, hml, hown, hts⟩ (w_ahead l G y h (1 + ((x / 4) - (x / 4) / 60 * 60)) 4 w T (s_X11_tryRule_z (x - x / 4 * 4) z) (hpu z []) (some z) s1 H.size hO hz  hfl) (vx_cwSW 3 hts gL_hands_L_tryAhead rfl rfl rfl (by decide +kernel) ⟨Nat.le_of_ble_eq_true rfl, Nat.le_of_ble_eq_true rfl⟩) (PHZ_S hP hK hN hD hTY hS (F_0 hD hS hA)) rfl rfl hl.1 rfl (lv_room (Nat.le_of_ble_eq_true rfl)) dL_hands_481 ⟨Nat.le_of_ble_eq_true rfl, Nat.le_of_ble_eq_true rfl⟩) hD hS hA (fun w H locs hO hP hD hS => ?_)
                        refine lv_iload hx hb dL_hands_484 (lv_at hl 5 rfl) ?_
                        refine lv_icmp_ne (tgt := 593) hx hb dL_hands_486 (by decide) (fun c9 => absurd (f_486 c_24 c_89) c9) (fun _ => ?_)
                        refine lv_aload_n hx hb dL_hands_489 rfl (lv_at hl 15 rfl) ?_
                        refine lv_iload hx hb dL_hands_490 (lv_at hl 10 rfl) ?_
                        refine cl_O (Φ := (fun w9 => (s_X11_tick_k (1 + ((x / 4) - (x / 4) / 60 * 60)) = 0 ∧ OB y h T (s_X11_tick_z (1 + ((x / 4) - (x / 4) / 60 * 60)) (s_X11_tryRule_z (x - x / 4 * 4) z)) (hpu (s_X11_tryRule_z (x - x / 4 * 4) z) (hpu z [])) (some z) s1 w9) ∨ (¬ s_X11_tick_k (1 + ((x / 4) - (x / 4) / 60 * 60)) = 0 ∧ OB y h T (s_X11_tryRule_z (x - x / 4 * 4) z) (hpu z []) (some z) s1 w9))) (vx_runSX (As := [.ref h, .int (1 + ((x / 4) - (x / 4) / 60 * 60))]) (rest := []) ⟨hx, hb, hml, hown, hts⟩ (w_tick l G y h (1 + ((x / 4) - (x / 4) / 60 * 60)) w T (s_X11_tryRule_z (x - x / 4 * 4) z) (hpu z []) (some z) s1 H.size hO hz  hfl) (vx_cwSW 2 hts gL_hands_L_tryTick rfl rfl rfl (by decide +kernel) ⟨Nat.le_of_ble_eq_true rfl, Nat.le_of_ble_eq_true rfl⟩) (PHZ_S hP hK hN hD hTY hS (F_0 hD hS hA)) rfl rfl hl.1 rfl (lv_room (Nat.le_of_ble_eq_true rfl)) dL_hands_492 ⟨Nat.le_of_ble_eq_true rfl, Nat.le_of_ble_eq_true rfl⟩) hD hS hA (fun w H locs hO hP hD hS => ?_)
                        have hO : OB y h T (s_X11_tick_z (1 + ((x / 4) - (x / 4) / 60 * 60)) (s_X11_tryRule_z (x - x / 4 * 4) z)) (hpu (s_X11_tryRule_z (x - x / 4 * 4) z) (hpu z [])) (some z) s1 w := oy (k_492 c_24 c_89) hO
                        have hz : TS (s_X11_tick_z (1 + ((x / 4) - (x / 4) / 60 * 60)) (s_X11_tryRule_z (x - x / 4 * 4) z)) := (t_492 c_24 c_89)
                        refine lv_iload hx hb dL_hands_495 (lv_at hl 4 rfl) ?_
                        refine lv_icmp_ne (tgt := 593) hx hb dL_hands_497 (by decide) (fun c9 => absurd (f_497 c_24 c_89) c9) (fun _ => ?_)
                        refine lv_aload_n hx hb dL_hands_500 rfl (lv_at hl 15 rfl) ?_
                        refine cl_O (Φ := (fun w9 => (s_X11_takeBack_k (s_X11_tick_z (1 + ((x / 4) - (x / 4) / 60 * 60)) (s_X11_tryRule_z (x - x / 4 * 4) z)) = 0 ∧ OB y h T (s_X11_takeBack_z (s_X11_tick_z (1 + ((x / 4) - (x / 4) / 60 * 60)) (s_X11_tryRule_z (x - x / 4 * 4) z))) (hpu (s_X11_tick_z (1 + ((x / 4) - (x / 4) / 60 * 60)) (s_X11_tryRule_z (x - x / 4 * 4) z)) (hpu (s_X11_tryRule_z (x - x / 4 * 4) z) (hpu z []))) (some z) s1 w9) ∨ (¬ s_X11_takeBack_k (s_X11_tick_z (1 + ((x / 4) - (x / 4) / 60 * 60)) (s_X11_tryRule_z (x - x / 4 * 4) z)) = 0 ∧ OB y h T (s_X11_tick_z (1 + ((x / 4) - (x / 4) / 60 * 60)) (s_X11_tryRule_z (x - x / 4 * 4) z)) (hpu (s_X11_tryRule_z (x - x / 4 * 4) z) (hpu z [])) (some z) s1 w9))) (vx_runSX (As := [.ref h]) (rest := []) ⟨hx, hb, hml, hown, hts⟩ (w_takeBack l G y h w T (s_X11_tick_z (1 + ((x / 4) - (x / 4) / 60 * 60)) (s_X11_tryRule_z (x - x / 4 * 4) z)) (hpu (s_X11_tryRule_z (x - x / 4 * 4) z) (hpu z [])) (some z) s1 H.size hO hz  hfl) (vx_cwSW 1 hts gL_hands_L_tryTakeBack rfl rfl rfl (by decide +kernel) ⟨Nat.le_of_ble_eq_true rfl, Nat.le_of_ble_eq_true rfl⟩) (PHZ_S hP hK hN hD hTY hS (F_0 hD hS hA)) rfl rfl hl.1 rfl (lv_room (Nat.le_of_ble_eq_true rfl)) dL_hands_501 ⟨Nat.le_of_ble_eq_true rfl, Nat.le_of_ble_eq_true rfl⟩) hD hS hA (fun w H locs hO hP hD hS => ?_)
                        have hO : OB y h T (s_X11_takeBack_z (s_X11_tick_z (1 + ((x / 4) - (x / 4) / 60 * 60)) (s_X11_tryRule_z (x - x / 4 * 4) z))) (hpu (s_X11_tick_z (1 + ((x / 4) - (x / 4) / 60 * 60)) (s_X11_tryRule_z (x - x / 4 * 4) z)) (hpu (s_X11_tryRule_z (x - x / 4 * 4) z) (hpu z []))) (some z) s1 w := oy (k_501 c_24 c_89) hO
                        have hz : TS (s_X11_takeBack_z (s_X11_tick_z (1 + ((x / 4) - (x / 4) / 60 * 60)) (s_X11_tryRule_z (x - x / 4 * 4) z))) := (t_501 c_24 c_89)
                        refine lv_iload hx hb dL_hands_504 (lv_at hl 12 rfl) ?_
                        refine lv_icmp_ne (tgt := 593) hx hb dL_hands_506 (by decide) (fun c9 => absurd (f_506 c_24 c_89) c9) (fun _ => ?_)
                        refine lv_aload_n hx hb dL_hands_509 rfl (lv_at hl 15 rfl) ?_
                        refine lv_bipush (v := 8) hx hb dL_hands_510 (by decide) ?_
                        refine cl_O (Φ := (fun w9 => OB y h T (s_X11_takeBack_z (s_X11_tick_z (1 + ((x / 4) - (x / 4) / 60 * 60)) (s_X11_tryRule_z (x - x / 4 * 4) z))) (hpu (s_X11_tick_z (1 + ((x / 4) - (x / 4) / 60 * 60)) (s_X11_tryRule_z (x - x / 4 * 4) z)) (hpu (s_X11_tryRule_z (x - x / 4 * 4) z) (hpu z []))) (some z) s1 w9)) (vx_runSX (As := [.ref h, .int 8]) (rest := []) ⟨hx, hb, hml, hown, hts⟩ (w_about l G y h 8 w T (s_X11_takeBack_z (s_X11_tick_z (1 + ((x / 4) - (x / 4) / 60 * 60)) (s_X11_tryRule_z (x - x / 4 * 4) z))) (hpu (s_X11_tick_z (1 + ((x / 4) - (x / 4) / 60 * 60)) (s_X11_tryRule_z (x - x / 4 * 4) z)) (hpu (s_X11_tryRule_z (x - x / 4 * 4) z) (hpu z []))) (some z) s1 H.size hO hz  hfl) (vx_cwSW 2 hts gL_hands_L_tryAbout rfl rfl rfl (by decide +kernel) ⟨Nat.le_of_ble_eq_true rfl, Nat.le_of_ble_eq_true rfl⟩) (PHZ_S hP hK hN hD hTY hS (F_0 hD hS hA)) rfl rfl hl.1 rfl (lv_room (Nat.le_of_ble_eq_true rfl)) dL_hands_512 ⟨Nat.le_of_ble_eq_true rfl, Nat.le_of_ble_eq_true rfl⟩) hD hS hA (fun w H locs hO hP hD hS => ?_)
                        refine lv_iload hx hb dL_hands_515 (lv_at hl 2 rfl) ?_
                        refine lv_icmp_ne (tgt := 593) hx hb dL_hands_517 (by decide) (fun c9 => absurd (f_517 c_24 c_89) c9) (fun _ => ?_)
                        refine lv_aload_n hx hb dL_hands_520 rfl (lv_at hl 15 rfl) ?_
                        refine lv_bipush (v := 9) hx hb dL_hands_521 (by decide) ?_
                        refine cl_O (Φ := (fun w9 => OB y h T (s_X11_takeBack_z (s_X11_tick_z (1 + ((x / 4) - (x / 4) / 60 * 60)) (s_X11_tryRule_z (x - x / 4 * 4) z))) (hpu (s_X11_tick_z (1 + ((x / 4) - (x / 4) / 60 * 60)) (s_X11_tryRule_z (x - x / 4 * 4) z)) (hpu (s_X11_tryRule_z (x - x / 4 * 4) z) (hpu z []))) (some z) s1 w9)) (vx_runSX (As := [.ref h, .int 9]) (rest := []) ⟨hx, hb, hml, hown, hts⟩ (w_about l G y h 9 w T (s_X11_takeBack_z (s_X11_tick_z (1 + ((x / 4) - (x / 4) / 60 * 60)) (s_X11_tryRule_z (x - x / 4 * 4) z))) (hpu (s_X11_tick_z (1 + ((x / 4) - (x / 4) / 60 * 60)) (s_X11_tryRule_z (x - x / 4 * 4) z)) (hpu (s_X11_tryRule_z (x - x / 4 * 4) z) (hpu z []))) (some z) s1 H.size hO hz  hfl) (vx_cwSW 2 hts gL_hands_L_tryAbout rfl rfl rfl (by decide +kernel) ⟨Nat.le_of_ble_eq_true rfl, Nat.le_of_ble_eq_true rfl⟩) (PHZ_S hP hK hN hD hTY hS (F_0 hD hS hA)) rfl rfl hl.1 rfl (lv_room (Nat.le_of_ble_eq_true rfl)) dL_hands_523 ⟨Nat.le_of_ble_eq_true rfl, Nat.le_of_ble_eq_true rfl⟩) hD hS hA (fun w H locs hO hP hD hS => ?_)
                        refine lv_iload hx hb dL_hands_526 (lv_at hl 1 rfl) ?_
                        refine lv_icmp_ne (tgt := 593) hx hb dL_hands_528 (by decide) (fun c9 => absurd (f_528 c_24 c_89) c9) (fun _ => ?_)
                        refine lv_aload_n hx hb dL_hands_531 rfl (lv_at hl 15 rfl) ?_
                        refine lv_bipush (v := 10) hx hb dL_hands_532 (by decide) ?_
                        refine cl_O (Φ := (fun w9 => OB y h T (s_X11_takeBack_z (s_X11_tick_z (1 + ((x / 4) - (x / 4) / 60 * 60)) (s_X11_tryRule_z (x - x / 4 * 4) z))) (hpu (s_X11_tick_z (1 + ((x / 4) - (x / 4) / 60 * 60)) (s_X11_tryRule_z (x - x / 4 * 4) z)) (hpu (s_X11_tryRule_z (x - x / 4 * 4) z) (hpu z []))) (some z) s1 w9)) (vx_runSX (As := [.ref h, .int 10]) (rest := []) ⟨hx, hb, hml, hown, hts⟩ (w_about l G y h 10 w T (s_X11_takeBack_z (s_X11_tick_z (1 + ((x / 4) - (x / 4) / 60 * 60)) (s_X11_tryRule_z (x - x / 4 * 4) z))) (hpu (s_X11_tick_z (1 + ((x / 4) - (x / 4) / 60 * 60)) (s_X11_tryRule_z (x - x / 4 * 4) z)) (hpu (s_X11_tryRule_z (x - x / 4 * 4) z) (hpu z []))) (some z) s1 H.size hO hz  hfl) (vx_cwSW 2 hts gL_hands_L_tryAbout rfl rfl rfl (by decide +kernel) ⟨Nat.le_of_ble_eq_true rfl, Nat.le_of_ble_eq_true rfl⟩) (PHZ_S hP hK hN hD hTY hS (F_0 hD hS hA)) rfl rfl hl.1 rfl (lv_room (Nat.le_of_ble_eq_true rfl)) dL_hands_534 ⟨Nat.le_of_ble_eq_true rfl, Nat.le_of_ble_eq_true rfl⟩) hD hS hA (fun w H locs hO hP hD hS => ?_)
                        refine lv_iload hx hb dL_hands_537 (lv_at hl 0 rfl) ?_
                        refine lv_icmp_ne (tgt := 593) hx hb dL_hands_539 (by decide) (fun c9 => absurd (f_539 c_24 c_89) c9) (fun _ => ?_)
                        refine lv_aload_n hx hb dL_hands_542 rfl (lv_at hl 15 rfl) ?_
                        refine lv_bipush (v := 11) hx hb dL_hands_543 (by decide) ?_
                        refine cl_O (Φ := (fun w9 => OB y h T (s_X11_takeBack_z (s_X11_tick_z (1 + ((x / 4) - (x / 4) / 60 * 60)) (s_X11_tryRule_z (x - x / 4 * 4) z))) (hpu (s_X11_tick_z (1 + ((x / 4) - (x / 4) / 60 * 60)) (s_X11_tryRule_z (x - x / 4 * 4) z)) (hpu (s_X11_tryRule_z (x - x / 4 * 4) z) (hpu z []))) (some z) s1 w9)) (vx_runSX (As := [.ref h, .int 11]) (rest := []) ⟨hx, hb, hml, hown, hts⟩ (w_about l G y h 11 w T (s_X11_takeBack_z (s_X11_tick_z (1 + ((x / 4) - (x / 4) / 60 * 60)) (s_X11_tryRule_z (x - x / 4 * 4) z))) (hpu (s_X11_tick_z (1 + ((x / 4) - (x / 4) / 60 * 60)) (s_X11_tryRule_z (x - x / 4 * 4) z)) (hpu (s_X11_tryRule_z (x - x / 4 * 4) z) (hpu z []))) (some z) s1 H.size hO hz  hfl) (vx_cwSW 2 hts gL_hands_L_tryAbout rfl rfl rfl (by decide +kernel) ⟨Nat.le_of_ble_eq_true rfl, Nat.le_of_ble_eq_true rfl⟩) (PHZ_S hP hK hN hD hTY hS (F_0 hD hS hA)) rfl rfl hl.1 rfl (lv_room (Nat.le_of_ble_eq_true rfl)) dL_hands_545 ⟨Nat.le_of_ble_eq_true rfl, Nat.le_of_ble_eq_true rfl⟩) hD hS hA (fun w H locs hO hP hD hS => ?_)
                        refine lv_iload hx hb dL_hands_548 (lv_at hl 9 rfl) ?_
                        refine lv_icmp_ne (tgt := 593) hx hb dL_hands_550 (by decide) (fun c9 => absurd (f_550 c_24 c_89) c9) (fun _ => ?_)
                        refine lv_aload_n hx hb dL_hands_553 rfl (lv_at hl 15 rfl) ?_
                        refine lv_bipush (v := 14) hx hb dL_hands_554 (by decide) ?_
                        refine cl_O (Φ := (fun w9 => OB y h T (s_X11_takeBack_z (s_X11_tick_z (1 + ((x / 4) - (x / 4) / 60 * 60)) (s_X11_tryRule_z (x - x / 4 * 4) z))) (hpu (s_X11_tick_z (1 + ((x / 4) - (x / 4) / 60 * 60)) (s_X11_tryRule_z (x - x / 4 * 4) z)) (hpu (s_X11_tryRule_z (x - x / 4 * 4) z) (hpu z []))) (some z) s1 w9)) (vx_runSX (As := [.ref h, .int 14]) (rest := []) ⟨hx, hb, hml, hown, hts⟩ (w_about l G y h 14 w T (s_X11_takeBack_z (s_X11_tick_z (1 + ((x / 4) - (x / 4) / 60 * 60)) (s_X11_tryRule_z (x - x / 4 * 4) z))) (hpu (s_X11_tick_z (1 + ((x / 4) - (x / 4) / 60 * 60)) (s_X11_tryRule_z (x - x / 4 * 4) z)) (hpu (s_X11_tryRule_z (x - x / 4 * 4) z) (hpu z []))) (some z) s1 H.size hO hz  hfl) (vx_cwSW 2 hts gL_hands_L_tryAbout rfl rfl rfl (by decide +kernel) ⟨Nat.le_of_ble_eq_true rfl, Nat.le_of_ble_eq_true rfl⟩) (PHZ_S hP hK hN hD hTY hS (F_0 hD hS hA)) rfl rfl hl.1 rfl (lv_room (Nat.le_of_ble_eq_true rfl)) dL_hands_556 ⟨Nat.le_of_ble_eq_true rfl, Nat.le_of_ble_eq_true rfl⟩) hD hS hA (fun w H locs hO hP hD hS => ?_)
                        refine lv_iload hx hb dL_hands_559 (lv_at hl 9 rfl) ?_
                        refine lv_iconst (v := 1) hx hb dL_hands_561 (by decide) ?_
                        have J570_107 : ∀ (v_106 : Int32) (e_v_106 : v_106 = (if (qAbout 11 z) = 1 then (1 : Int32) else (0 : Int32))) (w : va_W) (hO : OB y h T (s_X11_takeBack_z (s_X11_tick_z (1 + ((x / 4) - (x / 4) / 60 * 60)) (s_X11_tryRule_z (x - x / 4 * 4) z))) (hpu (s_X11_tick_z (1 + ((x / 4) - (x / 4) / 60 * 60)) (s_X11_tryRule_z (x - x / 4 * 4) z)) (hpu (s_X11_tryRule_z (x - x / 4 * 4) z) (hpu z []))) (some z) s1 w) (H : Heap) (locs : List Loc) (hP : va_P G vwCl w H) (hD : va_D A w) (hS : va_S A s.heap H locs) (ls : Array Slot) (hl : lv_has ls 23 [(10, .int (qProp (x - x / 4 * 4) 0 z)), (6, .int (x - x / 4 * 4)), (5, .int (qAbout 18 z)), (3, .int (qAbout 16 z)), (2, .int (qAbout 13 z)), (0, .ref h), (1, .int x)]), W p l e (headSpec wsL_hands rmL_hands).room s m ([.ref h, .int x] : List Value).toArray below meth c H locs 281 1686 QQ (F0 m 570 ls [.int v_106, .int (qAbout 14 (s_X11_takeBack_z (s_X11_tick_z (1 + ((x / 4) - (x / 4) / 60 * 60)) (s_X11_tryRule_z (x - x / 4 * 4) z))))]) := by
                          intro v_106 e_v_106 w hO H locs hP hD hS ls hl
                          subst e_v_106
                          refine lv_icmp_ne (tgt := 593) hx hb dL_hands_570 (by decide) (fun c9 => absurd (f_570 c_24 c_89) c9) (fun _ => ?_)
                          refine lv_aload_n hx hb dL_hands_573 rfl (lv_at hl 5 rfl) ?_
                          refine cl_OM (Φ := (fun w9 => OB y h T (s_X11_takeBack_z (s_X11_tick_z (1 + ((x / 4) - (x / 4) / 60 * 60)) (s_X11_tryRule_z (x - x / 4 * 4) z))) (hpu (s_X11_tick_z (1 + ((x / 4) - (x / 4) / 60 * 60)) (s_X11_tryRule_z (x - x / 4 * 4) z)) (hpu (s_X11_tryRule_z (x - x / 4 * 4) z) (hpu z []))) (some z) s1 w9)) (va_runS (As := [.ref h]) (rest := []) ⟨hx, hb, hml, hown, hts⟩ (c_L_sound l G y h w T (s_X11_takeBack_z (s_X11_tick_z (1 + ((x / 4) - (x / 4) / 60 * 60)) (s_X11_tryRule_z (x - x / 4 * 4) z))) (hpu (s_X11_tick_z (1 + ((x / 4) - (x / 4) / 60 * 60)) (s_X11_tryRule_z (x - x / 4 * 4) z)) (hpu (s_X11_tryRule_z (x - x / 4 * 4) z) (hpu z []))) (some z) s1 H.size hO hz (m_574 c_24 c_89) hfl) (va_cwS 1 hts gL_hands_L_sound rfl rfl rfl (by decide +kernel) ⟨Nat.le_of_ble_eq_true rfl, Nat.le_of_ble_eq_true rfl⟩) (PHZ_S hP hK hN hD hTY hS (F_0 hD hS hA)) rfl rfl hl.1 rfl (lv_room (Nat.le_of_ble_eq_true rfl)) dL_hands_574 ⟨Nat.le_of_ble_eq_true rfl, Nat.le_of_ble_eq_true rfl⟩) hD hS hA (fun w H locs hO hP hD hS => ?_)
                          refine lv_if_eq (tgt := 593) hx hb dL_hands_577 (by decide) (fun c_109 => (by first | exact absurd c_109 (by decide : ¬ ((1 : Int32) = 0)) | exact absurd (by decide : ¬ ((1 : Int32) = 0)) c_109)) (fun _ => ?_)
                          refine lv_aload_n hx hb dL_hands_580 rfl (lv_at hl 5 rfl) ?_
                          refine lv_iconst (v := 0) hx hb dL_hands_581 (by decide) ?_
                          refine cl_O (Φ := (fun w9 => (kRes 0 (some z) s1 = 0 ∧ OB y h T z [] (some z) s1 w9) ∨ (¬ kRes 0 (some z) s1 = 0 ∧ OB y h T (s_X11_takeBack_z (s_X11_tick_z (1 + ((x / 4) - (x / 4) / 60 * 60)) (s_X11_tryRule_z (x - x / 4 * 4) z))) (hpu (s_X11_tick_z (1 + ((x / 4) - (x / 4) / 60 * 60)) (s_X11_tryRule_z (x - x / 4 * 4) z)) (hpu (s_X11_tryRule_z (x - x / 4 * 4) z) (hpu z []))) (some z) s1 w9))) (vx_runSX (As := [.ref h, .int 0]) (rest := []) ⟨hx, hb, hml, hown, hts⟩ (w_restore l G y h 0 w T (s_X11_takeBack_z (s_X11_tick_z (1 + ((x / 4) - (x / 4) / 60 * 60)) (s_X11_tryRule_z (x - x / 4 * 4) z))) (hpu (s_X11_tick_z (1 + ((x / 4) - (x / 4) / 60 * 60)) (s_X11_tryRule_z (x - x / 4 * 4) z)) (hpu (s_X11_tryRule_z (x - x / 4 * 4) z) (hpu z []))) (some z) s1 H.size hO hz  hfl) (vx_cwSW 2 hts gL_hands_L_tryRestore rfl rfl rfl (by decide +kernel) ⟨Nat.le_of_ble_eq_true rfl, Nat.le_of_ble_eq_true rfl⟩) (PHZ_S hP hK hN hD hTY hS (F_0 hD hS hA)) rfl rfl hl.1 rfl (lv_room (Nat.le_of_ble_eq_true rfl)) dL_hands_582 ⟨Nat.le_of_ble_eq_true rfl, Nat.le_of_ble_eq_true rfl⟩) hD hS hA (fun w H locs hO hP hD hS => ?_)
                          have hO : OB y h T z [] (some z) s1 w := oy (k_582 c_24 c_89) hO
                          have hz : TS z := (t_582 c_24 c_89)
                          refine lv_iload_n hx hb dL_hands_585 rfl (lv_at hl 4 rfl) ?_
                          refine lv_icmp_ne (tgt := 593) hx hb dL_hands_586 (by decide) (fun c9 => absurd (f_586 c_24 c_89) c9) (fun _ => ?_)
                          refine lv_iconst (v := 1) hx hb dL_hands_589 (by decide) ?_
                          refine lv_goto (tgt := 594) hx hb dL_hands_590 (by decide) ?_
                          refine lv_istore (lv' := [(9, .int 1), (10, .int (qProp (x - x / 4 * 4) 0 z)), (6, .int (x - x / 4 * 4)), (5, .int (qAbout 18 z)), (3, .int (qAbout 16 z)), (2, .int (qAbout 13 z)), (0, .ref h), (1, .int x)]) hx hb dL_hands_594 hl (by decide) rfl (fun ls hl => ?_)
                          refine lv_iload hx hb dL_hands_596 (lv_at hl 0 rfl) ?_
                          refine lv_if_eq (tgt := 665) hx hb dL_hands_598 (by decide) (fun c_111 => (by first | exact absurd c_111 (by decide : ¬ ((1 : Int32) = 0)) | exact absurd (by decide : ¬ ((1 : Int32) = 0)) c_111)) (fun _ => ?_)
                          refine lv_aload_n hx hb dL_hands_601 rfl (lv_at hl 6 rfl) ?_
                          refine lv_iload hx hb dL_hands_602 (lv_at hl 2 rfl) ?_
                          refine cl_O (Φ := (fun w9 => (s_X11_tryRule_k (x - x / 4 * 4) z = 0 ∧ OB y h T (s_X11_tryRule_z (x - x / 4 * 4) z) (hpu z []) (some z) s1 w9) ∨ (¬ s_X11_tryRule_k (x - x / 4 * 4) z = 0 ∧ OB y h T z [] (some z) s1 w9))) (vx_runSX (As := [.ref h, .int (x - x / 4 * 4)]) (rest := []) ⟨hx, hb, hml, hown, hts⟩ (w_tryRule l G y h (x - x / 4 * 4) w T z [] (some z) s1 H.size hO hz  hfl) (vx_cwSW 2 hts gL_hands_L_tryRule rfl rfl rfl (by decide +kernel) ⟨Nat.le_of_ble_eq_true rfl, Nat.le_of_ble_eq_true rfl⟩) (PHZ_S hP hK hN hD hTY hS (F_0 hD hS hA)) rfl rfl hl.1 rfl (lv_room (Nat.le_of_ble_eq_true rfl)) dL_hands_604 ⟨Nat.le_of_ble_eq_true rfl, Nat.le_of_ble_eq_true rfl⟩) hD hS hA (fun w H locs hO hP hD hS => ?_)
                          have hO : OB y h T (s_X11_tryRule_z (x - x / 4 * 4) z) (hpu z []) (some z) s1 w := oy (k_604 c_24 c_89) hO
                          have hz : TS (s_X11_tryRule_z (x - x / 4 * 4) z) := (t_604 c_24 c_89)
                          refine lv_iload hx hb dL_hands_607 (lv_at hl 1 rfl) ?_
                          refine lv_icmp_ne (tgt := 665) hx hb dL_hands_609 (by decide) (fun c9 => absurd (f_609 c_24 c_89) c9) (fun _ => ?_)
                          refine lv_aload_n hx hb dL_hands_612 rfl (lv_at hl 6 rfl) ?_
                          obtain ⟨fs, he⟩ := ob_in hO
                          refine cl_OM (Φ := (fun w9 => OB y h T (s_X11_accept_z (s_X11_tryRule_z (x - x / 4 * 4) z)) (hpu (s_X11_tryRule_z (x - x / 4 * 4) z) (hpu z [])) (some z) s1 w9)) (va_runV (As := []) (rest := []) ⟨hx, hb, hml, hown, hts⟩ (x_accept l G y h w T (s_X11_tryRule_z (x - x / 4 * 4) z) (hpu z []) (some z) s1 H.size hO hz ) (cwV 0 hts gL_hands_X11_accept rfl rfl rfl (by decide +kernel) ⟨Nat.le_of_ble_eq_true rfl, Nat.le_of_ble_eq_true rfl⟩) (PHZ_V he hP hK hN hD hTY hS (F_0 hD hS hA)) rfl rfl hl.1 rfl (lv_room (Nat.le_of_ble_eq_true rfl)) dL_hands_613 ⟨Nat.le_of_ble_eq_true rfl, Nat.le_of_ble_eq_true rfl⟩) hD hS hA (fun w H locs hO hP hD hS => ?_)
                          have hz : TS (s_X11_accept_z (s_X11_tryRule_z (x - x / 4 * 4) z)) := (t_613 c_24 c_89)
                          refine lv_iload hx hb dL_hands_616 (lv_at hl 3 rfl) ?_
                          refine lv_iconst (v := 1) hx hb dL_hands_618 (by decide) ?_
                          refine lv_iadd hx hb dL_hands_619 ?_
                          refine lv_icmp_ne (tgt := 665) hx hb dL_hands_620 (by decide) (fun c9 => absurd (f_620 c_24 c_89) c9) (fun _ => ?_)
                          refine lv_aload_n hx hb dL_hands_623 rfl (lv_at hl 6 rfl) ?_
                          refine lv_bipush (v := 18) hx hb dL_hands_624 (by decide) ?_
                          refine cl_O (Φ := (fun w9 => OB y h T (s_X11_accept_z (s_X11_tryRule_z (x - x / 4 * 4) z)) (hpu (s_X11_tryRule_z (x - x / 4 * 4) z) (hpu z [])) (some z) s1 w9)) (vx_runSX (As := [.ref h, .int 18]) (rest := []) ⟨hx, hb, hml, hown, hts⟩ (w_about l G y h 18 w T (s_X11_accept_z (s_X11_tryRule_z (x - x / 4 * 4) z)) (hpu (s_X11_tryRule_z (x - x / 4 * 4) z) (hpu z [])) (some z) s1 H.size hO hz  hfl) (vx_cwSW 2 hts gL_hands_L_tryAbout rfl rfl rfl (by decide +kernel) ⟨Nat.le_of_ble_eq_true rfl, Nat.le_of_ble_eq_true rfl⟩) (PHZ_S hP hK hN hD hTY hS (F_0 hD hS hA)) rfl rfl hl.1 rfl (lv_room (Nat.le_of_ble_eq_true rfl)) dL_hands_626 ⟨Nat.le_of_ble_eq_true rfl, Nat.le_of_ble_eq_true rfl⟩) hD hS hA (fun w H locs hO hP hD hS => ?_)
                          refine lv_if_ne (tgt := 665) hx hb dL_hands_629 (by decide) (fun c9 => absurd (f_629 c_24 c_89) c9) (fun _ => ?_)
                          refine lv_aload_n hx hb dL_hands_632 rfl (lv_at hl 6 rfl) ?_
                          refine lv_bipush (v := 8) hx hb dL_hands_633 (by decide) ?_
                          refine cl_O (Φ := (fun w9 => OB y h T (s_X11_accept_z (s_X11_tryRule_z (x - x / 4 * 4) z)) (hpu (s_X11_tryRule_z (x - x / 4 * 4) z) (hpu z [])) (some z) s1 w9)) (vx_runSX (As := [.ref h, .int 8]) (rest := []) ⟨hx, hb, hml, hown, hts⟩ (w_about l G y h 8 w T (s_X11_accept_z (s_X11_tryRule_z (x - x / 4 * 4) z)) (hpu (s_X11_tryRule_z (x - x / 4 * 4) z) (hpu z [])) (some z) s1 H.size hO hz  hfl) (vx_cwSW 2 hts gL_hands_L_tryAbout rfl rfl rfl (by decide +kernel) ⟨Nat.le_of_ble_eq_true rfl, Nat.le_of_ble_eq_true rfl⟩) (PHZ_S hP hK hN hD hTY hS (F_0 hD hS hA)) rfl rfl hl.1 rfl (lv_room (Nat.le_of_ble_eq_true rfl)) dL_hands_635 ⟨Nat.le_of_ble_eq_true rfl, Nat.le_of_ble_eq_true rfl⟩) hD hS hA (fun w H locs hO hP hD hS => ?_)
                          refine lv_iload hx hb dL_hands_638 (lv_at hl 1 rfl) ?_
                          refine lv_icmp_ne (tgt := 665) hx hb dL_hands_640 (by decide) (fun c9 => absurd (f_640 c_24 c_89) c9) (fun _ => ?_)
                          refine lv_aload_n hx hb dL_hands_643 rfl (lv_at hl 6 rfl) ?_
                          refine cl_O (Φ := (fun w9 => (s_X11_takeBack_k (s_X11_accept_z (s_X11_tryRule_z (x - x / 4 * 4) z)) = 0 ∧ OB y h T (s_X11_takeBack_z (s_X11_accept_z (s_X11_tryRule_z (x - x / 4 * 4) z))) (hpu (s_X11_accept_z (s_X11_tryRule_z (x - x / 4 * 4) z)) (hpu (s_X11_tryRule_z (x - x / 4 * 4) z) (hpu z []))) (some z) s1 w9) ∨ (¬ s_X11_takeBack_k (s_X11_accept_z (s_X11_tryRule_z (x - x / 4 * 4) z)) = 0 ∧ OB y h T (s_X11_accept_z (s_X11_tryRule_z (x - x / 4 * 4) z)) (hpu (s_X11_tryRule_z (x - x / 4 * 4) z) (hpu z [])) (some z) s1 w9))) (vx_runSX (As := [.ref h]) (rest := []) ⟨hx, hb, hml, hown, hts⟩ (w_takeBack l G y h w T (s_X11_accept_z (s_X11_tryRule_z (x - x / 4 * 4) z)) (hpu (s_X11_tryRule_z (x - x / 4 * 4) z) (hpu z [])) (some z) s1 H.size hO hz  hfl) (vx_cwSW 1 hts gL_hands_L_tryTakeBack rfl rfl rfl (by decide +kernel) ⟨Nat.le_of_ble_eq_true rfl, Nat.le_of_ble_eq_true rfl⟩) (PHZ_S hP hK hN hD hTY hS (F_0 hD hS hA)) rfl rfl hl.1 rfl (lv_room (Nat.le_of_ble_eq_true rfl)) dL_hands_644 ⟨Nat.le_of_ble_eq_true rfl, Nat.le_of_ble_eq_true rfl⟩) hD hS hA (fun w H locs hO hP hD hS => ?_)
                          have hO : OB y h T (s_X11_accept_z (s_X11_tryRule_z (x - x / 4 * 4) z)) (hpu (s_X11_tryRule_z (x - x / 4 * 4) z) (hpu z [])) (some z) s1 w := on (k_644 c_24 c_89) hO
                          refine lv_ldc (v := (-999003)) hx hb hown (hts (.constant RL 18 (-999003)) (by decide +kernel)) dL_hands_647 ?_
                          refine lv_icmp_ne (tgt := 665) hx hb dL_hands_649 (by decide) (fun c9 => absurd (f_649 c_24 c_89) c9) (fun _ => ?_)
                          refine lv_aload_n hx hb dL_hands_652 rfl (lv_at hl 6 rfl) ?_
                          refine lv_iconst (v := 0) hx hb dL_hands_653 (by decide) ?_
                          refine cl_O (Φ := (fun w9 => (kRes 0 (some z) s1 = 0 ∧ OB y h T z [] (some z) s1 w9) ∨ (¬ kRes 0 (some z) s1 = 0 ∧ OB y h T (s_X11_accept_z (s_X11_tryRule_z (x - x / 4 * 4) z)) (hpu (s_X11_tryRule_z (x - x / 4 * 4) z) (hpu z [])) (some z) s1 w9))) (vx_runSX (As := [.ref h, .int 0]) (rest := []) ⟨hx, hb, hml, hown, hts⟩ (w_restore l G y h 0 w T (s_X11_accept_z (s_X11_tryRule_z (x - x / 4 * 4) z)) (hpu (s_X11_tryRule_z (x - x / 4 * 4) z) (hpu z [])) (some z) s1 H.size hO hz  hfl) (vx_cwSW 2 hts gL_hands_L_tryRestore rfl rfl rfl (by decide +kernel) ⟨Nat.le_of_ble_eq_true rfl, Nat.le_of_ble_eq_true rfl⟩) (PHZ_S hP hK hN hD hTY hS (F_0 hD hS hA)) rfl rfl hl.1 rfl (lv_room (Nat.le_of_ble_eq_true rfl)) dL_hands_654 ⟨Nat.le_of_ble_eq_true rfl, Nat.le_of_ble_eq_true rfl⟩) hD hS hA (fun w H locs hO hP hD hS => ?_)
                          have hO : OB y h T z [] (some z) s1 w := oy (k_654 c_24 c_89) hO
                          have hz : TS z := (t_654 c_24 c_89)
                          refine lv_iload_n hx hb dL_hands_657 rfl (lv_at hl 5 rfl) ?_
                          refine lv_icmp_ne (tgt := 665) hx hb dL_hands_658 (by decide) (fun c9 => absurd (f_658 c_24 c_89) c9) (fun _ => ?_)
                          refine lv_iconst (v := 1) hx hb dL_hands_661 (by decide) ?_
                          refine lv_goto (tgt := 666) hx hb dL_hands_662 (by decide) ?_
                          refine lv_istore (lv' := [(9, .int 1), (10, .int (qProp (x - x / 4 * 4) 0 z)), (6, .int (x - x / 4 * 4)), (5, .int (qAbout 18 z)), (3, .int (qAbout 16 z)), (2, .int (qAbout 13 z)), (0, .ref h), (1, .int x)]) hx hb dL_hands_666 hl (by decide) rfl (fun ls hl => ?_)
                          exact J668_25 w hO H locs hP hD hS ls (lv_sub hl [0, 4, 5, 6, 7] rfl)
                        refine lv_icmp_ne (tgt := 569) hx hb dL_hands_562 (by decide) (fun c_105 => ?_) (fun c_105 => ?_)
                        · refine lv_iconst (v := 0) hx hb dL_hands_569 (by decide) ?_
                          exact J570_107 _ ((if_neg c_105).symm) w hO H locs hP hD hS ls (lv_sub hl [8, 11, 12, 13, 14, 15, 16] rfl)
                        · refine lv_iconst (v := 1) hx hb dL_hands_565 (by decide) ?_
                          refine lv_goto (tgt := 570) hx hb dL_hands_566 (by decide) ?_
                          exact J570_107 _ ((if_pos c_105).symm) w hO H locs hP hD hS ls (lv_sub hl [8, 11, 12, 13, 14, 15, 16] rfl)
                    refine lv_icmp_lt (tgt := 315) hx hb dL_hands_298 (by decide) (fun c_84 => ?_) (fun c_84 => ?_)
                    · exact J315_85 w hO H locs hP hD hS ls (lv_sub hl [1, 3, 4, 5, 6, 7, 8, 9, 10, 11, 12, 13, 14] rfl)
                    · refine lv_iload hx hb dL_hands_301 (lv_at hl 0 rfl) ?_
                      refine lv_iload hx hb dL_hands_303 (lv_at hl 3 rfl) ?_
                      refine lv_icmp_ne (tgt := 364) hx hb dL_hands_305 (by decide) (fun c9 => absurd (f_305 c_24 c_84) c9) (fun _ => ?_)
                      refine lv_iload hx hb dL_hands_308 (lv_at hl 2 rfl) ?_
                      refine lv_iload hx hb dL_hands_310 (lv_at hl 9 rfl) ?_
                      refine lv_icmp_gt (tgt := 364) hx hb dL_hands_312 (by decide) (fun c9 => absurd c9 (f_312 c_24 c_84)) (fun _ => ?_)
                      exact J315_85 w hO H locs hP hD hS ls (lv_sub hl [1, 3, 4, 5, 6, 7, 8, 9, 10, 11, 12, 13, 14] rfl)
                  refine lv_if_gt (tgt := 294) hx hb dL_hands_286 (by decide) (fun c_82 => ?_) (fun c_82 => ?_)
                  · exact J294_83 w hO H locs hP hD hS ls (lv_sub hl [0, 1, 2, 3, 4, 5, 6, 7, 8, 9, 10, 11, 12, 13, 14] rfl)
                  · refine lv_iload hx hb dL_hands_289 (lv_at hl 5 rfl) ?_
                    refine lv_if_ne (tgt := 364) hx hb dL_hands_291 (by decide) (fun c9 => absurd (f_291 c_24 c_82) c9) (fun _ => ?_)
                    exact J294_83 w hO H locs hP hD hS ls (lv_sub hl [0, 1, 2, 3, 4, 5, 6, 7, 8, 9, 10, 11, 12, 13, 14] rfl)
                refine lv_icmp_gt (tgt := 284) hx hb dL_hands_276 (by decide) (fun c_80 => ?_) (fun c_80 => ?_)
                · exact J284_81 w hO H locs hP hD hS ls (lv_sub hl [0, 1, 3, 4, 5, 6, 7, 8, 9, 10, 11, 13, 14, 15, 16] rfl)
                · refine lv_iload hx hb dL_hands_279 (lv_at hl 5 rfl) ?_
                  refine lv_if_ne (tgt := 364) hx hb dL_hands_281 (by decide) (fun c9 => absurd (f_281 c_24 c_80) c9) (fun _ => ?_)
                  exact J284_81 w hO H locs hP hD hS ls (lv_sub hl [0, 1, 3, 4, 5, 6, 7, 8, 9, 10, 11, 13, 14, 15, 16] rfl)
            refine lv_icmp_ne (tgt := 191) hx hb dL_hands_184 (by decide) (fun c_20 => ?_) (fun c_20 => ?_)
            · refine lv_iconst (v := 0) hx hb dL_hands_191 (by decide) ?_
              exact J192_22 _ ((if_neg c_20).symm) w hO H locs hP hD hS ls (lv_sub hl [0, 1, 2, 3, 4, 5, 6, 7, 8, 9, 10, 11, 12, 13] rfl)
            · refine lv_iconst (v := 1) hx hb dL_hands_187 (by decide) ?_
              refine lv_goto (tgt := 192) hx hb dL_hands_188 (by decide) ?_
              exact J192_22 _ ((if_pos c_20).symm) w hO H locs hP hD hS ls (lv_sub hl [0, 1, 2, 3, 4, 5, 6, 7, 8, 9, 10, 11, 12, 13] rfl)
          refine lv_if_ne (tgt := 179) hx hb dL_hands_172 (by decide) (fun c_17 => ?_) (fun c_17 => ?_)
          · refine lv_iconst (v := 0) hx hb dL_hands_179 (by decide) ?_
            exact J180_19 _ ((if_neg c_17).symm) w hO H locs hP hD hS ls (lv_sub hl [0, 1, 2, 3, 4, 5, 6, 7, 8, 9, 10, 11, 12, 13] rfl)
          · refine lv_iconst (v := 1) hx hb dL_hands_175 (by decide) ?_
            refine lv_goto (tgt := 180) hx hb dL_hands_176 (by decide) ?_
            exact J180_19 _ ((if_pos c_17).symm) w hO H locs hP hD hS ls (lv_sub hl [0, 1, 2, 3, 4, 5, 6, 7, 8, 9, 10, 11, 12, 13] rfl)
        refine lv_icmp_ne (tgt := 166) hx hb dL_hands_159 (by decide) (fun c_13 => ?_) (fun c_13 => ?_)
        · refine lv_iconst (v := 0) hx hb dL_hands_166 (by decide) ?_
          exact J167_15 _ ((if_neg c_13).symm) w hO H locs hP hD hS ls (lv_sub hl [0, 1, 2, 3, 4, 5, 6, 7, 8, 9, 10, 11, 12, 13] rfl)
        · refine lv_iconst (v := 1) hx hb dL_hands_162 (by decide) ?_
          refine lv_goto (tgt := 167) hx hb dL_hands_163 (by decide) ?_
          exact J167_15 _ ((if_pos c_13).symm) w hO H locs hP hD hS ls (lv_sub hl [0, 1, 2, 3, 4, 5, 6, 7, 8, 9, 10, 11, 12, 13] rfl)
      refine lv_if_ne (tgt := 154) hx hb dL_hands_147 (by decide) (fun c_10 => ?_) (fun c_10 => ?_)
      · refine lv_iconst (v := 0) hx hb dL_hands_154 (by decide) ?_
        exact J155_12 _ ((if_neg c_10).symm) w hO H locs hP hD hS ls (lv_sub hl [0, 1, 2, 3, 4, 5, 6, 7, 8, 9, 10, 11, 12, 13] rfl)
      · refine lv_iconst (v := 1) hx hb dL_hands_150 (by decide) ?_
        refine lv_goto (tgt := 155) hx hb dL_hands_151 (by decide) ?_
        exact J155_12 _ ((if_pos c_10).symm) w hO H locs hP hD hS ls (lv_sub hl [0, 1, 2, 3, 4, 5, 6, 7, 8, 9, 10, 11, 12, 13] rfl)
    refine lv_icmp_ne (tgt := 141) hx hb dL_hands_134 (by decide) (fun c_6 => ?_) (fun c_6 => ?_)
    · refine lv_iconst (v := 0) hx hb dL_hands_141 (by decide) ?_
      exact J142_8 _ ((if_neg c_6).symm) w hO H locs hP hD hS ls (lv_sub hl [0, 1, 2, 3, 4, 5, 6, 7, 8, 9, 10, 11, 12, 13] rfl)
    · refine lv_iconst (v := 1) hx hb dL_hands_137 (by decide) ?_
      refine lv_goto (tgt := 142) hx hb dL_hands_138 (by decide) ?_
      exact J142_8 _ ((if_pos c_6).symm) w hO H locs hP hD hS ls (lv_sub hl [0, 1, 2, 3, 4, 5, 6, 7, 8, 9, 10, 11, 12, 13] rfl)
  refine lv_if_ne (tgt := 129) hx hb dL_hands_122 (by decide) (fun c_3 => ?_) (fun c_3 => ?_)
  · refine lv_iconst (v := 0) hx hb dL_hands_129 (by decide) ?_
    exact J130_5 _ ((if_neg c_3).symm) w hO H locs hP hD hS ls (lv_sub hl [0, 1, 2, 3, 4, 6, 7, 8, 9, 10, 11, 12, 13, 14] rfl)
  · refine lv_iconst (v := 1) hx hb dL_hands_125 (by decide) ?_
    refine lv_goto (tgt := 130) hx hb dL_hands_126 (by decide) ?_
    exact J130_5 _ ((if_pos c_3).symm) w hO H locs hP hD hS ls (lv_sub hl [0, 1, 2, 3, 4, 6, 7, 8, 9, 10, 11, 12, 13, 14] rfl)

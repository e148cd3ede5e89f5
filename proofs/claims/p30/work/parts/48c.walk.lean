abbrev rmL_alike : Room := ({ frames := 8, cells := 390, slots := 2340, locals := 176 } : Room)
set_option maxHeartbeats 2000000 in
set_option maxRecDepth 20000 in
theorem c_L_alike (l : Launch) (G : va_G) (y : Nat → ClassId) (hp : Nat) (hq : Nat)  (wp : va_W) (wq : va_W) (T : List Int32) (z : Zs) (Hs : List Zs) (s0 s1 : Option Zs) (sz : Nat) (hOp : OB y hp T z Hs s0 s1 wp) (hOq : OB y hq T z Hs s0 s1 wq) (hz : TS z) (hF : FX_alike z) (hfl : l.stackTraces = false) : Met l yL_alike wsL_alike rmL_alike (PHZ G y [.ref hp, .ref hq] (wp ++ wq) sz) (QO G 1 (fun w9 => ∃ wp9 wq9, w9 = wp9 ++ wq9 ∧ OB y hp T z Hs s0 s1 wp9 ∧ OB y hq T z Hs s0 s1 wq9) (va_A (wp ++ wq) sz)) 390 2340 (va_A (wp ++ wq) sz) := by
  refine Met.ofW (cc := cL_alike) (maxL := 4) (ret := (some .boolean)) (by decide) rfl ?_
  intro p e s m args below meth c s₁ B hml hv
  obtain ⟨rfl, hsz, hP, ⟨hK, hN⟩, hD0, hTY⟩ := hv
  have hx := B.exec
  have hb := B.bytes
  have hr := B.returns
  have hts := atoms_spec (ws := wsL_alike) B.pre
  have hown : s.vm.findClass RL = some m.cls := findClass_of_methodNamed B.named
  subst hsz
  have hD := hD0.self (sz := s.heap.size)
  generalize hAe : va_A (wp ++ wq) s.heap.size = A at hD hTY ⊢
  have hA : ∀ q : Nat, s.heap.size ≤ q → A q := fun q h => by rw [← hAe]; exact Or.inr h
  have hS : va_S A s.heap s.heap [] := va_S.rf
  obtain ⟨l_69, f_125, f_138, f_96, f_24, f_43⟩ := hF
  have hl := lv_entry ([.ref hp, .ref hq]) (n := 4) (Nat.le_of_ble_eq_true rfl)
  rw [lg_entry_eq]
  generalize (lg_sl ([.ref hp, .ref hq]) ++ List.replicate (4 - (lg_sl ([.ref hp, .ref hq])).length) Slot.unset).toArray = ls at hl ⊢
  have hl : lv_has ls 4 [(0, .ref hp), (1, .ref hq)] := hl
  obtain ⟨QQ, hQQ⟩ : ∃ zq9, zq9 = MQ below (QO G 1 (fun w9 => ∃ wp9 wq9, w9 = wp9 ++ wq9 ∧ OB y hp T z Hs s0 s1 wp9 ∧ OB y hq T z Hs s0 s1 wq9) A) ([.ref hp, .ref hq] : List Value).toArray s 390 2340 A := ⟨_, rfl⟩
  rw [← hQQ]
  refine lv_iconst (v := 1) hx hb dL_alike_0 (by decide) ?_
  refine lv_istore_n (lv' := [(2, .int 1), (0, .ref hp), (1, .ref hq)]) hx hb dL_alike_1 rfl hl (by decide) rfl (fun ls hl => ?_)
  refine lv_iconst (v := 0) hx hb dL_alike_2 (by decide) ?_
  refine lv_istore_n (lv' := [(3, .int 0), (2, .int 1), (0, .ref hp), (1, .ref hq)]) hx hb dL_alike_3 rfl hl (by decide) rfl (fun ls hl => ?_)
  have LOOP4_1 : ∀ (n_2 : Nat) (t : Nat) (ht : t ≤ 20) (hn_4 : 21 - t < n_2) (wp : va_W) (wq : va_W) (hOp : OB y hp T z Hs s0 s1 wp) (hOq : OB y hq T z Hs s0 s1 wq) (H : Heap) (locs : List Loc) (hP : va_P G vwCl (wp ++ wq) H) (hD : va_D A (wp ++ wq)) (hS : va_S A s.heap H locs) (ls : Array Slot) (hl : lv_has ls 4 [(3, .int (nI t)), (2, .int 1), (0, .ref hp), (1, .ref hq)]), W p l e (headSpec wsL_alike rmL_alike).room s m ([.ref hp, .ref hq] : List Value).toArray below meth c H locs (0 + t * 4) (0 + t * 24) QQ (F0 m 4 ls []) := by
    intro n_2
    induction n_2 with
    | zero => intro t ht hn_4 wp wq hOp hOq H locs hP hD hS ls hl; exact absurd hn_4 (Nat.not_lt_zero _)
    | succ n_2 ih_3 =>
      intro t ht hn_4 wp wq hOp hOq H locs hP hD hS ls hl
      refine lv_iload_n hx hb dL_alike_4 rfl (lv_at hl 0 rfl) ?_
      refine lv_bipush (v := 20) hx hb dL_alike_5 (by decide) ?_
      refine lv_icmp_ge (tgt := 58) hx hb dL_alike_7 (by decide) (fun c_5 => ?_) (fun c_5 => ?_)
      · refine W.widen (k := 80) (n := 480) (by omega) (by omega) ?_
        refine lv_iconst (v := 0) hx hb dL_alike_58 (by decide) ?_
        refine lv_istore_n (lv' := [(3, .int 0), (2, .int 1), (0, .ref hp), (1, .ref hq)]) hx hb dL_alike_59 rfl hl (by decide) rfl (fun ls hl => ?_)
        have LOOP60_6 : ∀ (n_7 : Nat) (t : Nat) (ht : t ≤ 100) (hn_9 : 101 - t < n_7) (wp : va_W) (wq : va_W) (hOp : OB y hp T z Hs s0 s1 wp) (hOq : OB y hq T z Hs s0 s1 wq) (H : Heap) (locs : List Loc) (hP : va_P G vwCl (wp ++ wq) H) (hD : va_D A (wp ++ wq)) (hS : va_S A s.heap H locs) (ls : Array Slot) (hl : lv_has ls 4 [(3, .int (nI t)), (2, .int 1), (0, .ref hp), (1, .ref hq)]), W p l e (headSpec wsL_alike rmL_alike).room s m ([.ref hp, .ref hq] : List Value).toArray below meth c H locs (80 + t * 3) (480 + t * 18) QQ (F0 m 60 ls []) := by
          intro n_7
          induction n_7 with
          | zero => intro t ht hn_9 wp wq hOp hOq H locs hP hD hS ls hl; exact absurd hn_9 (Nat.not_lt_zero _)
          | succ n_7 ih_8 =>
            intro t ht hn_9 wp wq hOp hOq H locs hP hD hS ls hl
            refine lv_iload_n hx hb dL_alike_60 rfl (lv_at hl 0 rfl) ?_
            refine lv_iconst (v := 5) hx hb dL_alike_61 (by decide) ?_
            refine lv_aload_n hx hb dL_alike_62 rfl (lv_at hl 2 rfl) ?_
            refine lv_bipush (v := 16) hx hb dL_alike_63 (by decide) ?_
            refine cl_O (Φ := fun x9 => ∃ w9, x9 = w9 ++ wq ∧ (fun w9 => OB y hp T z Hs s0 s1 w9) w9) (vx_runSX (As := [.ref hp, .int 16]) (rest := [.int 5, .int (nI t)]) ⟨hx, hb, hml, hown, hts⟩ (z_fx (wr := wq) (W := wp ++ wq) (fun x9 => x9 ++ wq) (w_about l G y hp 16 wp T z Hs s0 s1 H.size hOp hz  hfl) List.perm_append_comm (fun _ => List.perm_append_comm) (fun x9 hx9 => ⟨x9, rfl, hx9⟩)) (vx_cwSW 2 hts gL_alike_L_tryAbout rfl rfl rfl (by decide +kernel) ⟨Nat.le_of_ble_eq_true rfl, Nat.le_of_ble_eq_true rfl⟩) (PHZ_S hP hK hN hD hTY hS (F_0 hD hS hA)) rfl rfl hl.1 rfl (lv_room (Nat.le_of_ble_eq_true rfl)) dL_alike_65 ⟨(show 80 + t * 3 + 1 ≤ 390 by omega), (show 480 + t * 18 + 6 ≤ 2340 by omega)⟩) hD hS hA (fun x8 H locs hO9 hP hD hS => ?_)
            obtain ⟨wp, rfl, hOp⟩ := hO9
            refine lv_imul hx hb dL_alike_68 ?_
            refine lv_icmp_ge (tgt := 111) hx hb dL_alike_69 (by decide) (fun c_10 => ?_) (fun c_10 => ?_)
            · refine W.widen (k := 381) (n := 2286) (by omega) (by omega) ?_
              refine lv_iload_n hx hb dL_alike_111 rfl (lv_at hl 1 rfl) ?_
              refine lv_if_eq (tgt := 145) hx hb dL_alike_112 (by decide) (fun c_11 => (by first | exact absurd c_11 (by decide : ¬ ((1 : Int32) = 0)) | exact absurd (by decide : ¬ ((1 : Int32) = 0)) c_11)) (fun _ => ?_)
              refine lv_aload_n hx hb dL_alike_115 rfl (lv_at hl 2 rfl) ?_
              refine lv_iconst (v := 1) hx hb dL_alike_116 (by decide) ?_
              obtain ⟨fs, he⟩ := ob_in hOp
              have he := List.mem_append_left wq he
              refine cl_OM (Φ := fun x9 => ∃ w9, x9 = w9 ++ wq ∧ (fun w9 => OB y hp T z Hs s0 s1 w9) w9) (va_runV (As := [.int 1]) (rest := []) ⟨hx, hb, hml, hown, hts⟩ (z_fr (wr := wq) (W := wp ++ wq) (fun x9 => x9 ++ wq) (x_middle l G y hp 1 wp T z Hs s0 s1 H.size hOp hz ) List.perm_append_comm (fun _ => List.perm_append_comm) (fun x9 hx9 => ⟨x9, rfl, hx9⟩)) (cwV 1 hts gL_alike_X11_middle rfl rfl rfl (by decide +kernel) ⟨Nat.le_of_ble_eq_true rfl, Nat.le_of_ble_eq_true rfl⟩) (PHZ_V he hP hK hN hD hTY hS (F_0 hD hS hA)) rfl rfl hl.1 rfl (lv_room (Nat.le_of_ble_eq_true rfl)) dL_alike_117 ⟨Nat.le_of_ble_eq_true rfl, Nat.le_of_ble_eq_true rfl⟩) hD hS hA (fun x8 H locs hO9 hP hD hS => ?_)
              obtain ⟨wp, rfl, hOp⟩ := hO9
              refine lv_aload_n hx hb dL_alike_120 rfl (lv_at hl 3 rfl) ?_
              refine lv_iconst (v := 1) hx hb dL_alike_121 (by decide) ?_
              obtain ⟨fs, he⟩ := ob_in hOq
              have he := List.mem_append_right wp he
              refine cl_OM (Φ := fun x9 => ∃ w9, x9 = wp ++ w9 ∧ (fun w9 => OB y hq T z Hs s0 s1 w9) w9) (va_runV (As := [.int 1]) (rest := [.int (s_X11_middle_r 1 z)]) ⟨hx, hb, hml, hown, hts⟩ (z_fr (wr := wp) (W := wp ++ wq) (fun x9 => wp ++ x9) (x_middle l G y hq 1 wq T z Hs s0 s1 H.size hOq hz ) (List.Perm.refl _) (fun _ => List.Perm.refl _) (fun x9 hx9 => ⟨x9, rfl, hx9⟩)) (cwV 1 hts gL_alike_X11_middle rfl rfl rfl (by decide +kernel) ⟨Nat.le_of_ble_eq_true rfl, Nat.le_of_ble_eq_true rfl⟩) (PHZ_V he hP hK hN hD hTY hS (F_0 hD hS hA)) rfl rfl hl.1 rfl (lv_room (Nat.le_of_ble_eq_true rfl)) dL_alike_122 ⟨Nat.le_of_ble_eq_true rfl, Nat.le_of_ble_eq_true rfl⟩) hD hS hA (fun x8 H locs hO9 hP hD hS => ?_)
              obtain ⟨wq, rfl, hOq⟩ := hO9
              refine lv_icmp_ne (tgt := 145) hx hb dL_alike_125 (by decide) (fun c9 => absurd f_125 c9) (fun _ => ?_)
              refine lv_aload_n hx hb dL_alike_128 rfl (lv_at hl 2 rfl) ?_
              refine lv_iconst (v := 0) hx hb dL_alike_129 (by decide) ?_
              obtain ⟨fs, he⟩ := ob_in hOp
              have he := List.mem_append_left wq he
              refine cl_OM (Φ := fun x9 => ∃ w9, x9 = w9 ++ wq ∧ (fun w9 => OB y hp T z Hs s0 s1 w9) w9) (va_runV (As := [.int 0]) (rest := []) ⟨hx, hb, hml, hown, hts⟩ (z_fr (wr := wq) (W := wp ++ wq) (fun x9 => x9 ++ wq) (x_middle l G y hp 0 wp T z Hs s0 s1 H.size hOp hz ) List.perm_append_comm (fun _ => List.perm_append_comm) (fun x9 hx9 => ⟨x9, rfl, hx9⟩)) (cwV 1 hts gL_alike_X11_middle rfl rfl rfl (by decide +kernel) ⟨Nat.le_of_ble_eq_true rfl, Nat.le_of_ble_eq_true rfl⟩) (PHZ_V he hP hK hN hD hTY hS (F_0 hD hS hA)) rfl rfl hl.1 rfl (lv_room (Nat.le_of_ble_eq_true rfl)) dL_alike_130 ⟨Nat.le_of_ble_eq_true rfl, Nat.le_of_ble_eq_true rfl⟩) hD hS hA (fun x8 H locs hO9 hP hD hS => ?_)
              obtain ⟨wp, rfl, hOp⟩ := hO9
              refine lv_aload_n hx hb dL_alike_133 rfl (lv_at hl 3 rfl) ?_
              refine lv_iconst (v := 0) hx hb dL_alike_134 (by decide) ?_
              obtain ⟨fs, he⟩ := ob_in hOq
              have he := List.mem_append_right wp he
              refine cl_OM (Φ := fun x9 => ∃ w9, x9 = wp ++ w9 ∧ (fun w9 => OB y hq T z Hs s0 s1 w9) w9) (va_runV (As := [.int 0]) (rest := [.int (s_X11_middle_r 0 z)]) ⟨hx, hb, hml, hown, hts⟩ (z_fr (wr := wp) (W := wp ++ wq) (fun x9 => wp ++ x9) (x_middle l G y hq 0 wq T z Hs s0 s1 H.size hOq hz ) (List.Perm.refl _) (fun _ => List.Perm.refl _) (fun x9 hx9 => ⟨x9, rfl, hx9⟩)) (cwV 1 hts gL_alike_X11_middle rfl rfl rfl (by decide +kernel) ⟨Nat.le_of_ble_eq_true rfl, Nat.le_of_ble_eq_true rfl⟩) (PHZ_V he hP hK hN hD hTY hS (F_0 hD hS hA)) rfl rfl hl.1 rfl (lv_room (Nat.le_of_ble_eq_true rfl)) dL_alike_135 ⟨Nat.le_of_ble_eq_true rfl, Nat.le_of_ble_eq_true rfl⟩) hD hS hA (fun x8 H locs hO9 hP hD hS => ?_)
              obtain ⟨wq, rfl, hOq⟩ := hO9
              refine lv_icmp_ne (tgt := 145) hx hb dL_alike_138 (by decide) (fun c9 => absurd f_138 c9) (fun _ => ?_)
              refine lv_iconst (v := 1) hx hb dL_alike_141 (by decide) ?_
              refine lv_goto (tgt := 146) hx hb dL_alike_142 (by decide) ?_
              rw [hQQ]
              refine W.widen (k := 390) (n := 2340) (by omega) (by omega) ?_
              exact W.zret hx hb hr (nz_bool (Or.inr rfl)) (end_O (⟨wp, wq, rfl, hOp, hOq⟩) hP hD hS rfl) hS.2.2 dL_alike_146
            · have hlt : t < 100 := (l_69 t ht c_10)
              refine lv_iload_n hx hb dL_alike_72 rfl (lv_at hl 1 rfl) ?_
              refine lv_if_eq (tgt := 111) hx hb dL_alike_73 (by decide) (fun c_14 => (by first | exact absurd c_14 (by decide : ¬ ((1 : Int32) = 0)) | exact absurd (by decide : ¬ ((1 : Int32) = 0)) c_14)) (fun _ => ?_)
              refine lv_aload_n hx hb dL_alike_76 rfl (lv_at hl 2 rfl) ?_
              refine lv_iload_n hx hb dL_alike_77 rfl (lv_at hl 0 rfl) ?_
              refine lv_iconst (v := 5) hx hb dL_alike_78 (by decide) ?_
              refine lv_idiv hx hb dL_alike_79 (by decide) ?_
              refine lv_iload_n hx hb dL_alike_80 rfl (lv_at hl 0 rfl) ?_
              refine lv_iconst (v := 5) hx hb dL_alike_81 (by decide) ?_
              refine lv_irem hx hb dL_alike_82 (by decide) ?_
              refine cl_O (Φ := fun x9 => ∃ w9, x9 = w9 ++ wq ∧ (fun w9 => OB y hp T z Hs s0 s1 w9) w9) (vx_runSX (As := [.ref hp, .int ((nI t) / 5), .int ((nI t) - (nI t) / 5 * 5)]) (rest := []) ⟨hx, hb, hml, hown, hts⟩ (z_fx (wr := wq) (W := wp ++ wq) (fun x9 => x9 ++ wq) (w_swing l G y hp ((nI t) / 5) ((nI t) - (nI t) / 5 * 5) wp T z Hs s0 s1 H.size hOp hz  hfl) List.perm_append_comm (fun _ => List.perm_append_comm) (fun x9 hx9 => ⟨x9, rfl, hx9⟩)) (vx_cwSW 3 hts gL_alike_L_trySwing rfl rfl rfl (by decide +kernel) ⟨Nat.le_of_ble_eq_true rfl, Nat.le_of_ble_eq_true rfl⟩) (PHZ_S hP hK hN hD hTY hS (F_0 hD hS hA)) rfl rfl hl.1 rfl (lv_room (Nat.le_of_ble_eq_true rfl)) dL_alike_83 ⟨(show 80 + t * 3 + 1 + 1 ≤ 390 by omega), (show 480 + t * 18 + 6 + 6 ≤ 2340 by omega)⟩) hD hS hA (fun x8 H locs hO9 hP hD hS => ?_)
              obtain ⟨wp, rfl, hOp⟩ := hO9
              refine lv_aload_n hx hb dL_alike_86 rfl (lv_at hl 3 rfl) ?_
              refine lv_iload_n hx hb dL_alike_87 rfl (lv_at hl 0 rfl) ?_
              refine lv_iconst (v := 5) hx hb dL_alike_88 (by decide) ?_
              refine lv_idiv hx hb dL_alike_89 (by decide) ?_
              refine lv_iload_n hx hb dL_alike_90 rfl (lv_at hl 0 rfl) ?_
              refine lv_iconst (v := 5) hx hb dL_alike_91 (by decide) ?_
              refine lv_irem hx hb dL_alike_92 (by decide) ?_
              refine cl_O (Φ := fun x9 => ∃ w9, x9 = wp ++ w9 ∧ (fun w9 => OB y hq T z Hs s0 s1 w9) w9) (vx_runSX (As := [.ref hq, .int ((nI t) / 5), .int ((nI t) - (nI t) / 5 * 5)]) (rest := [.int (qSwing ((nI t) / 5) ((nI t) - (nI t) / 5 * 5) z)]) ⟨hx, hb, hml, hown, hts⟩ (z_fx (wr := wp) (W := wp ++ wq) (fun x9 => wp ++ x9) (w_swing l G y hq ((nI t) / 5) ((nI t) - (nI t) / 5 * 5) wq T z Hs s0 s1 H.size hOq hz  hfl) (List.Perm.refl _) (fun _ => List.Perm.refl _) (fun x9 hx9 => ⟨x9, rfl, hx9⟩)) (vx_cwSW 3 hts gL_alike_L_trySwing rfl rfl rfl (by decide +kernel) ⟨Nat.le_of_ble_eq_true rfl, Nat.le_of_ble_eq_true rfl⟩) (PHZ_S hP hK hN hD hTY hS (F_0 hD hS hA)) rfl rfl hl.1 rfl (lv_room (Nat.le_of_ble_eq_true rfl)) dL_alike_93 ⟨(show 80 + t * 3 + 2 + 1 ≤ 390 by omega), (show 480 + t * 18 + 12 + 6 ≤ 2340 by omega)⟩) hD hS hA (fun x8 H locs hO9 hP hD hS => ?_)
              obtain ⟨wq, rfl, hOq⟩ := hO9
              refine lv_icmp_ne (tgt := 103) hx hb dL_alike_96 (by decide) (fun c9 => absurd (f_96 t ht hlt) c9) (fun _ => ?_)
              refine lv_iconst (v := 1) hx hb dL_alike_99 (by decide) ?_
              refine lv_goto (tgt := 104) hx hb dL_alike_100 (by decide) ?_
              refine lv_istore_n (lv' := [(2, .int 1), (3, .int (nI t)), (0, .ref hp), (1, .ref hq)]) hx hb dL_alike_104 rfl hl (by decide) rfl (fun ls hl => ?_)
              refine lv_iinc (v := ((nI t) + 1)) (lv' := [(3, .int ((nI t) + 1)), (2, .int 1), (0, .ref hp), (1, .ref hq)]) hx hb dL_alike_105 hl (k := 1) rfl (by first | rfl | decide) (by decide) rfl (fun ls hl => ?_)
              refine lv_goto (tgt := 60) hx hb dL_alike_108 (by decide) ?_
              rw [show (nI t + 1 : Int32) = nI (t + 1) from nI_add t 1] at hl
              refine W.widen (k := 80 + (t + 1) * 3) (n := 480 + (t + 1) * 18) (by omega) (by omega) ?_
              exact ih_8 (t + 1) (by omega) (by omega) wp wq hOp hOq H locs hP hD hS ls (lv_sub hl [0, 1, 2, 3] rfl)
        refine W.widen (k := 80 + 0 * 3) (n := 480 + 0 * 18) (by omega) (by omega) ?_
        exact LOOP60_6 (101 - 0 + 1) 0 (by omega) (Nat.lt_succ_self _) wp wq hOp hOq H locs hP hD hS ls (lv_sub hl [0, 1, 2, 3] rfl)
      · have hlt : t < 20 := lt_nI (n := 20) (by omega) (by omega) c_5
        refine lv_iload_n hx hb dL_alike_10 rfl (lv_at hl 1 rfl) ?_
        refine lv_if_eq (tgt := 50) hx hb dL_alike_11 (by decide) (fun c_16 => (by first | exact absurd c_16 (by decide : ¬ ((1 : Int32) = 0)) | exact absurd (by decide : ¬ ((1 : Int32) = 0)) c_16)) (fun _ => ?_)
        refine lv_aload_n hx hb dL_alike_14 rfl (lv_at hl 2 rfl) ?_
        refine lv_iload_n hx hb dL_alike_15 rfl (lv_at hl 0 rfl) ?_
        refine cl_O (Φ := fun x9 => ∃ w9, x9 = w9 ++ wq ∧ (fun w9 => OB y hp T z Hs s0 s1 w9) w9) (vx_runSX (As := [.ref hp, .int (nI t)]) (rest := []) ⟨hx, hb, hml, hown, hts⟩ (z_fx (wr := wq) (W := wp ++ wq) (fun x9 => x9 ++ wq) (w_about l G y hp (nI t) wp T z Hs s0 s1 H.size hOp hz  hfl) List.perm_append_comm (fun _ => List.perm_append_comm) (fun x9 hx9 => ⟨x9, rfl, hx9⟩)) (vx_cwSW 2 hts gL_alike_L_tryAbout rfl rfl rfl (by decide +kernel) ⟨Nat.le_of_ble_eq_true rfl, Nat.le_of_ble_eq_true rfl⟩) (PHZ_S hP hK hN hD hTY hS (F_0 hD hS hA)) rfl rfl hl.1 rfl (lv_room (Nat.le_of_ble_eq_true rfl)) dL_alike_16 ⟨(show 0 + t * 4 + 1 ≤ 390 by omega), (show 0 + t * 24 + 6 ≤ 2340 by omega)⟩) hD hS hA (fun x8 H locs hO9 hP hD hS => ?_)
        obtain ⟨wp, rfl, hOp⟩ := hO9
        refine lv_aload_n hx hb dL_alike_19 rfl (lv_at hl 3 rfl) ?_
        refine lv_iload_n hx hb dL_alike_20 rfl (lv_at hl 0 rfl) ?_
        refine cl_O (Φ := fun x9 => ∃ w9, x9 = wp ++ w9 ∧ (fun w9 => OB y hq T z Hs s0 s1 w9) w9) (vx_runSX (As := [.ref hq, .int (nI t)]) (rest := [.int (qAbout (nI t) z)]) ⟨hx, hb, hml, hown, hts⟩ (z_fx (wr := wp) (W := wp ++ wq) (fun x9 => wp ++ x9) (w_about l G y hq (nI t) wq T z Hs s0 s1 H.size hOq hz  hfl) (List.Perm.refl _) (fun _ => List.Perm.refl _) (fun x9 hx9 => ⟨x9, rfl, hx9⟩)) (vx_cwSW 2 hts gL_alike_L_tryAbout rfl rfl rfl (by decide +kernel) ⟨Nat.le_of_ble_eq_true rfl, Nat.le_of_ble_eq_true rfl⟩) (PHZ_S hP hK hN hD hTY hS (F_0 hD hS hA)) rfl rfl hl.1 rfl (lv_room (Nat.le_of_ble_eq_true rfl)) dL_alike_21 ⟨(show 0 + t * 4 + 1 + 1 ≤ 390 by omega), (show 0 + t * 24 + 6 + 6 ≤ 2340 by omega)⟩) hD hS hA (fun x8 H locs hO9 hP hD hS => ?_)
        obtain ⟨wq, rfl, hOq⟩ := hO9
        refine lv_icmp_ne (tgt := 50) hx hb dL_alike_24 (by decide) (fun c9 => absurd (f_24 t ht hlt) c9) (fun _ => ?_)
        refine lv_iload_n hx hb dL_alike_27 rfl (lv_at hl 0 rfl) ?_
        refine lv_bipush (v := 6) hx hb dL_alike_28 (by decide) ?_
        have J46_19 : ∀  (wp : va_W) (wq : va_W) (hOp : OB y hp T z Hs s0 s1 wp) (hOq : OB y hq T z Hs s0 s1 wq) (H : Heap) (locs : List Loc) (hP : va_P G vwCl (wp ++ wq) H) (hD : va_D A (wp ++ wq)) (hS : va_S A s.heap H locs) (ls : Array Slot) (hl : lv_has ls 4 [(3, .int (nI t)), (0, .ref hp), (1, .ref hq)]), W p l e (headSpec wsL_alike rmL_alike).room s m ([.ref hp, .ref hq] : List Value).toArray below meth c H locs (0 + t * 4 + 4) (0 + t * 24 + 24) QQ (F0 m 46 ls []) := by
          intro wp wq hOp hOq H locs hP hD hS ls hl
          refine lv_iconst (v := 1) hx hb dL_alike_46 (by decide) ?_
          refine lv_goto (tgt := 51) hx hb dL_alike_47 (by decide) ?_
          refine lv_istore_n (lv' := [(2, .int 1), (3, .int (nI t)), (0, .ref hp), (1, .ref hq)]) hx hb dL_alike_51 rfl hl (by decide) rfl (fun ls hl => ?_)
          refine lv_iinc (v := ((nI t) + 1)) (lv' := [(3, .int ((nI t) + 1)), (2, .int 1), (0, .ref hp), (1, .ref hq)]) hx hb dL_alike_52 hl (k := 1) rfl (by first | rfl | decide) (by decide) rfl (fun ls hl => ?_)
          refine lv_goto (tgt := 4) hx hb dL_alike_55 (by decide) ?_
          rw [show (nI t + 1 : Int32) = nI (t + 1) from nI_add t 1] at hl
          refine W.widen (k := 0 + (t + 1) * 4) (n := 0 + (t + 1) * 24) (by omega) (by omega) ?_
          exact ih_3 (t + 1) (by omega) (by omega) wp wq hOp hOq H locs hP hD hS ls (lv_sub hl [0, 1, 2, 3] rfl)
        refine lv_icmp_gt (tgt := 46) hx hb dL_alike_30 (by decide) (fun c_18 => ?_) (fun c_18 => ?_)
        · refine W.widen (k := 0 + t * 4 + 4) (n := 0 + t * 24 + 24) (by omega) (by omega) ?_
          exact J46_19 wp wq hOp hOq H locs hP hD hS ls (lv_sub hl [0, 2, 3] rfl)
        · refine lv_aload_n hx hb dL_alike_33 rfl (lv_at hl 2 rfl) ?_
          refine lv_iload_n hx hb dL_alike_34 rfl (lv_at hl 0 rfl) ?_
          refine cl_O (Φ := fun x9 => ∃ w9, x9 = w9 ++ wq ∧ (fun w9 => OB y hp T z Hs s0 s1 w9) w9) (vx_runSX (As := [.ref hp, .int (nI t)]) (rest := []) ⟨hx, hb, hml, hown, hts⟩ (z_fx (wr := wq) (W := wp ++ wq) (fun x9 => x9 ++ wq) (w_account l G y hp (nI t) wp T z Hs s0 s1 H.size hOp hz  hfl) List.perm_append_comm (fun _ => List.perm_append_comm) (fun x9 hx9 => ⟨x9, rfl, hx9⟩)) (vx_cwSW 2 hts gL_alike_L_tryAccount rfl rfl rfl (by decide +kernel) ⟨Nat.le_of_ble_eq_true rfl, Nat.le_of_ble_eq_true rfl⟩) (PHZ_S hP hK hN hD hTY hS (F_0 hD hS hA)) rfl rfl hl.1 rfl (lv_room (Nat.le_of_ble_eq_true rfl)) dL_alike_35 ⟨(show 0 + t * 4 + 2 + 1 ≤ 390 by omega), (show 0 + t * 24 + 12 + 6 ≤ 2340 by omega)⟩) hD hS hA (fun x8 H locs hO9 hP hD hS => ?_)
          obtain ⟨wp, rfl, hOp⟩ := hO9
          refine lv_aload_n hx hb dL_alike_38 rfl (lv_at hl 3 rfl) ?_
          refine lv_iload_n hx hb dL_alike_39 rfl (lv_at hl 0 rfl) ?_
          refine cl_O (Φ := fun x9 => ∃ w9, x9 = wp ++ w9 ∧ (fun w9 => OB y hq T z Hs s0 s1 w9) w9) (vx_runSX (As := [.ref hq, .int (nI t)]) (rest := [.int (qAcc (nI t) z)]) ⟨hx, hb, hml, hown, hts⟩ (z_fx (wr := wp) (W := wp ++ wq) (fun x9 => wp ++ x9) (w_account l G y hq (nI t) wq T z Hs s0 s1 H.size hOq hz  hfl) (List.Perm.refl _) (fun _ => List.Perm.refl _) (fun x9 hx9 => ⟨x9, rfl, hx9⟩)) (vx_cwSW 2 hts gL_alike_L_tryAccount rfl rfl rfl (by decide +kernel) ⟨Nat.le_of_ble_eq_true rfl, Nat.le_of_ble_eq_true rfl⟩) (PHZ_S hP hK hN hD hTY hS (F_0 hD hS hA)) rfl rfl hl.1 rfl (lv_room (Nat.le_of_ble_eq_true rfl)) dL_alike_40 ⟨(show 0 + t * 4 + 3 + 1 ≤ 390 by omega), (show 0 + t * 24 + 18 + 6 ≤ 2340 by omega)⟩) hD hS hA (fun x8 H locs hO9 hP hD hS => ?_)
          obtain ⟨wq, rfl, hOq⟩ := hO9
          refine lv_icmp_ne (tgt := 50) hx hb dL_alike_43 (by decide) (fun c9 => absurd (f_43 t ht hlt c_18) c9) (fun _ => ?_)
          exact J46_19 wp wq hOp hOq H locs hP hD hS ls (lv_sub hl [0, 2, 3] rfl)
  refine W.widen (k := 0 + 0 * 4) (n := 0 + 0 * 24) (by omega) (by omega) ?_
  exact LOOP4_1 (21 - 0 + 1) 0 (by omega) (Nat.lt_succ_self _) wp wq hOp hOq s.heap [] hP hD hS ls (lv_sub hl [0, 1, 2, 3] rfl)
abbrev rmL_sound : Room := ({ frames := 9, cells := 245, slots := 1470, locals := 176 } : Room)
set_option maxHeartbeats 2000000 in
set_option maxRecDepth 20000 in
theorem c_L_sound (l : Launch) (G : va_G) (y : Nat → ClassId) (h : Nat)  (w : va_W) (T : List Int32) (z : Zs) (Hs : List Zs) (s0 s1 : Option Zs) (sz : Nat) (hO : OB y h T z Hs s0 s1 w) (hz : TS z) (hF : FX_sound z) (hfl : l.stackTraces = false) : Met l yL_sound wsL_sound rmL_sound (PHZ G y [.ref h] w sz) (QO G 1 (fun w9 => OB y h T z Hs s0 s1 w9) (va_A w sz)) 245 1470 (va_A w sz) := by
  refine Met.ofW (cc := cL_sound) (maxL := 12) (ret := (some .boolean)) (by decide) rfl ?_
  intro p e s m args below meth c s₁ B hml hv
  obtain ⟨rfl, hsz, hP, ⟨hK, hN⟩, hD0, hTY⟩ := hv
  have hx := B.exec
  have hb := B.bytes
  have hr := B.returns
  have hts := atoms_spec (ws := wsL_sound) B.pre
  have hown : s.vm.findClass RL = some m.cls := findClass_of_methodNamed B.named
  subst hsz
  have hD := hD0.self (sz := s.heap.size)
  generalize hAe : va_A w s.heap.size = A at hD hTY ⊢
  have hA : ∀ q : Nat, s.heap.size ≤ q → A q := fun q h => by rw [← hAe]; exact Or.inr h
  have hS : va_S A s.heap s.heap [] := va_S.rf
  obtain ⟨f_58, f_83, x_99, l_99, f_335, f_343, f_351, f_373, f_389, f_399, f_423, f_434, f_468, f_477, f_491, f_453, f_414, f_242, f_247, m_253, f_256, f_299, e_2, e_6, e_7, f_283, m_152⟩ := hF
  have hl := lv_entry ([.ref h]) (n := 12) (Nat.le_of_ble_eq_true rfl)
  rw [lg_entry_eq]
  generalize (lg_sl ([.ref h]) ++ List.replicate (12 - (lg_sl ([.ref h])).length) Slot.unset).toArray = ls at hl ⊢
  have hl : lv_has ls 12 [(0, .ref h)] := hl
  obtain ⟨QQ, hQQ⟩ : ∃ zq9, zq9 = MQ below (QO G 1 (fun w9 => OB y h T z Hs s0 s1 w9) A) ([.ref h] : List Value).toArray s 245 1470 A := ⟨_, rfl⟩
  rw [← hQQ]
  refine lv_aload_n hx hb dL_sound_0 rfl (lv_at hl 0 rfl) ?_
  refine lv_bipush (v := 16) hx hb dL_sound_1 (by decide) ?_
  refine cl_O (Φ := (fun w9 => OB y h T z Hs s0 s1 w9)) (vx_runSX (As := [.ref h, .int 16]) (rest := []) ⟨hx, hb, hml, hown, hts⟩ (w_about l G y h 16 w T z Hs s0 s1 s.heap.size hO hz  hfl) (vx_cwSW 2 hts gL_sound_L_tryAbout rfl rfl rfl (by decide +kernel) ⟨Nat.le_of_ble_eq_true rfl, Nat.le_of_ble_eq_true rfl⟩) (PHZ_S hP hK hN hD hTY hS (F_0 hD hS hA)) rfl rfl hl.1 rfl (lv_room (Nat.le_of_ble_eq_true rfl)) dL_sound_3 ⟨Nat.le_of_ble_eq_true rfl, Nat.le_of_ble_eq_true rfl⟩) hD hS hA (fun w H locs hO hP hD hS => ?_)
  refine lv_istore_n (lv' := [(1, .int (qAbout 16 z)), (0, .ref h)]) hx hb dL_sound_6 rfl hl (by decide) rfl (fun ls hl => ?_)
  refine lv_iconst (v := 0) hx hb dL_sound_7 (by decide) ?_
  refine lv_istore_n (lv' := [(2, .int 0), (1, .int (qAbout 16 z)), (0, .ref h)]) hx hb dL_sound_8 rfl hl (by decide) rfl (fun ls hl => ?_)
  refine lv_aload_n hx hb dL_sound_9 rfl (lv_at hl 2 rfl) ?_
  refine lv_bipush (v := 7) hx hb dL_sound_10 (by decide) ?_
  refine cl_O (Φ := (fun w9 => OB y h T z Hs s0 s1 w9)) (vx_runSX (As := [.ref h, .int 7]) (rest := []) ⟨hx, hb, hml, hown, hts⟩ (w_about l G y h 7 w T z Hs s0 s1 H.size hO hz  hfl) (vx_cwSW 2 hts gL_sound_L_tryAbout rfl rfl rfl (by decide +kernel) ⟨Nat.le_of_ble_eq_true rfl, Nat.le_of_ble_eq_true rfl⟩) (PHZ_S hP hK hN hD hTY hS (F_0 hD hS hA)) rfl rfl hl.1 rfl (lv_room (Nat.le_of_ble_eq_true rfl)) dL_sound_12 ⟨Nat.le_of_ble_eq_true rfl, Nat.le_of_ble_eq_true rfl⟩) hD hS hA (fun w H locs hO hP hD hS => ?_)
  refine lv_istore_n (lv' := [(3, .int (qAbout 7 z)), (2, .int 0), (1, .int (qAbout 16 z)), (0, .ref h)]) hx hb dL_sound_15 rfl hl (by decide) rfl (fun ls hl => ?_)
  refine lv_aload_n hx hb dL_sound_16 rfl (lv_at hl 3 rfl) ?_
  refine lv_iconst (v := 0) hx hb dL_sound_17 (by decide) ?_
  obtain ⟨fs, he⟩ := ob_in hO
  refine cl_OM (Φ := (fun w9 => OB y h T z Hs s0 s1 w9)) (va_runV (As := [.int 0]) (rest := []) ⟨hx, hb, hml, hown, hts⟩ (x_middle l G y h 0 w T z Hs s0 s1 H.size hO hz ) (cwV 1 hts gL_sound_X11_middle rfl rfl rfl (by decide +kernel) ⟨Nat.le_of_ble_eq_true rfl, Nat.le_of_ble_eq_true rfl⟩) (PHZ_V he hP hK hN hD hTY hS (F_0 hD hS hA)) rfl rfl hl.1 rfl (lv_room (Nat.le_of_ble_eq_true rfl)) dL_sound_18 ⟨Nat.le_of_ble_eq_true rfl, Nat.le_of_ble_eq_true rfl⟩) hD hS hA (fun w H locs hO hP hD hS => ?_)
  refine lv_istore (lv' := [(4, .int (s_X11_middle_r 0 z)), (3, .int (qAbout 7 z)), (2, .int 0), (1, .int (qAbout 16 z)), (0, .ref h)]) hx hb dL_sound_21 hl (by decide) rfl (fun ls hl => ?_)
  refine lv_aload_n hx hb dL_sound_23 rfl (lv_at hl 4 rfl) ?_
  refine lv_iconst (v := 1) hx hb dL_sound_24 (by decide) ?_
  obtain ⟨fs, he⟩ := ob_in hO
  refine cl_OM (Φ := (fun w9 => OB y h T z Hs s0 s1 w9)) (va_runV (As := [.int 1]) (rest := []) ⟨hx, hb, hml, hown, hts⟩ (x_middle l G y h 1 w T z Hs s0 s1 H.size hO hz ) (cwV 1 hts gL_sound_X11_middle rfl rfl rfl (by decide +kernel) ⟨Nat.le_of_ble_eq_true rfl, Nat.le_of_ble_eq_true rfl⟩) (PHZ_V he hP hK hN hD hTY hS (F_0 hD hS hA)) rfl rfl hl.1 rfl (lv_room (Nat.le_of_ble_eq_true rfl)) dL_sound_25 ⟨Nat.le_of_ble_eq_true rfl, Nat.le_of_ble_eq_true rfl⟩) hD hS hA (fun w H locs hO hP hD hS => ?_)
  refine lv_istore (lv' := [(5, .int (s_X11_middle_r 1 z)), (4, .int (s_X11_middle_r 0 z)), (3, .int (qAbout 7 z)), (2, .int 0), (1, .int (qAbout 16 z)), (0, .ref h)]) hx hb dL_sound_28 hl (by decide) rfl (fun ls hl => ?_)
  refine lv_iconst (v := 0) hx hb dL_sound_30 (by decide) ?_
  refine lv_istore (lv' := [(6, .int 0), (5, .int (s_X11_middle_r 1 z)), (4, .int (s_X11_middle_r 0 z)), (3, .int (qAbout 7 z)), (2, .int 0), (1, .int (qAbout 16 z)), (0, .ref h)]) hx hb dL_sound_31 hl (by decide) rfl (fun ls hl => ?_)
  refine lv_iconst (v := 0) hx hb dL_sound_33 (by decide) ?_
  refine lv_istore (lv' := [(7, .int 0), (6, .int 0), (5, .int (s_X11_middle_r 1 z)), (4, .int (s_X11_middle_r 0 z)), (3, .int (qAbout 7 z)), (2, .int 0), (1, .int (qAbout 16 z)), (0, .ref h)]) hx hb dL_sound_34 hl (by decide) rfl (fun ls hl => ?_)
  refine lv_iload_n hx hb dL_sound_36 rfl (lv_at hl 6 rfl) ?_
  refine lv_iconst (v := 2) hx hb dL_sound_37 (by decide) ?_
  have J46_3 : ∀ (v_2 : Int32) (e_v_2 : v_2 = (if 2 ≤ (qAbout 16 z) then (0 : Int32) else (1 : Int32))) (w : va_W) (hO : OB y h T z Hs s0 s1 w) (H : Heap) (locs : List Loc) (hP : va_P G vwCl w H) (hD : va_D A w) (hS : va_S A s.heap H locs) (ls : Array Slot) (hl : lv_has ls 12 [(7, .int 0), (6, .int 0), (5, .int (s_X11_middle_r 1 z)), (4, .int (s_X11_middle_r 0 z)), (3, .int (qAbout 7 z)), (2, .int 0), (1, .int (qAbout 16 z)), (0, .ref h)]), W p l e (headSpec wsL_sound rmL_sound).room s m ([.ref h] : List Value).toArray below meth c H locs 2 12 QQ (F0 m 46 ls [.int v_2]) := by
    intro v_2 e_v_2 w hO H locs hP hD hS ls hl
    subst e_v_2
    refine lv_iload hx hb dL_sound_46 (lv_at hl 3 rfl) ?_
    refine lv_ldc (v := (-99999)) hx hb hown (hts (.constant RL 119 (-99999)) (by decide +kernel)) dL_sound_48 ?_
    have J58_6 : ∀ (v_5 : Int32) (e_v_5 : v_5 = (if (s_X11_middle_r 0 z) = (-99999) then (1 : Int32) else (0 : Int32))) (w : va_W) (hO : OB y h T z Hs s0 s1 w) (H : Heap) (locs : List Loc) (hP : va_P G vwCl w H) (hD : va_D A w) (hS : va_S A s.heap H locs) (ls : Array Slot) (hl : lv_has ls 12 [(7, .int 0), (6, .int 0), (5, .int (s_X11_middle_r 1 z)), (4, .int (s_X11_middle_r 0 z)), (3, .int (qAbout 7 z)), (2, .int 0), (1, .int (qAbout 16 z)), (0, .ref h)]), W p l e (headSpec wsL_sound rmL_sound).room s m ([.ref h] : List Value).toArray below meth c H locs 2 12 QQ (F0 m 58 ls [.int v_5, .int (if 2 ≤ (qAbout 16 z) then (0 : Int32) else (1 : Int32))]) := by
      intro v_5 e_v_5 w hO H locs hP hD hS ls hl
      subst e_v_5
      refine lv_icmp_ne (tgt := 90) hx hb dL_sound_58 (by decide) (fun c9 => absurd f_58 c9) (fun _ => ?_)
      refine lv_iload_n hx hb dL_sound_61 rfl (lv_at hl 6 rfl) ?_
      refine lv_iconst (v := 2) hx hb dL_sound_62 (by decide) ?_
      have J71_10 : ∀ (v_9 : Int32) (e_v_9 : v_9 = (if 2 ≤ (qAbout 16 z) then (0 : Int32) else (1 : Int32))) (w : va_W) (hO : OB y h T z Hs s0 s1 w) (H : Heap) (locs : List Loc) (hP : va_P G vwCl w H) (hD : va_D A w) (hS : va_S A s.heap H locs) (ls : Array Slot) (hl : lv_has ls 12 [(7, .int 0), (6, .int 0), (5, .int (s_X11_middle_r 1 z)), (4, .int (s_X11_middle_r 0 z)), (3, .int (qAbout 7 z)), (2, .int 0), (1, .int (qAbout 16 z)), (0, .ref h)]), W p l e (headSpec wsL_sound rmL_sound).room s m ([.ref h] : List Value).toArray below meth c H locs 2 12 QQ (F0 m 71 ls [.int v_9]) := by
        intro v_9 e_v_9 w hO H locs hP hD hS ls hl
        subst e_v_9
        refine lv_iload hx hb dL_sound_71 (lv_at hl 2 rfl) ?_
        refine lv_ldc (v := (-99999)) hx hb hown (hts (.constant RL 119 (-99999)) (by decide +kernel)) dL_sound_73 ?_
        have J83_13 : ∀ (v_12 : Int32) (e_v_12 : v_12 = (if (s_X11_middle_r 1 z) = (-99999) then (1 : Int32) else (0 : Int32))) (w : va_W) (hO : OB y h T z Hs s0 s1 w) (H : Heap) (locs : List Loc) (hP : va_P G vwCl w H) (hD : va_D A w) (hS : va_S A s.heap H locs) (ls : Array Slot) (hl : lv_has ls 12 [(7, .int 0), (6, .int 0), (5, .int (s_X11_middle_r 1 z)), (4, .int (s_X11_middle_r 0 z)), (3, .int (qAbout 7 z)), (2, .int 0), (1, .int (qAbout 16 z)), (0, .ref h)]), W p l e (headSpec wsL_sound rmL_sound).room s m ([.ref h] : List Value).toArray below meth c H locs 2 12 QQ (F0 m 83 ls [.int v_12, .int (if 2 ≤ (qAbout 16 z) then (0 : Int32) else (1 : Int32))]) := by
          intro v_12 e_v_12 w hO H locs hP hD hS ls hl
          subst e_v_12
          refine lv_icmp_ne (tgt := 90) hx hb dL_sound_83 (by decide) (fun c9 => absurd f_83 c9) (fun _ => ?_)
          refine lv_iconst (v := 1) hx hb dL_sound_86 (by decide) ?_
          refine lv_goto (tgt := 91) hx hb dL_sound_87 (by decide) ?_
          refine lv_istore (lv' := [(8, .int 1), (7, .int 0), (6, .int 0), (5, .int (s_X11_middle_r 1 z)), (4, .int (s_X11_middle_r 0 z)), (3, .int (qAbout 7 z)), (2, .int 0), (1, .int (qAbout 16 z)), (0, .ref h)]) hx hb dL_sound_91 hl (by decide) rfl (fun ls hl => ?_)
          refine lv_iconst (v := 0) hx hb dL_sound_93 (by decide) ?_
          refine lv_istore (lv' := [(9, .int 0), (8, .int 1), (7, .int 0), (6, .int 0), (5, .int (s_X11_middle_r 1 z)), (4, .int (s_X11_middle_r 0 z)), (3, .int (qAbout 7 z)), (2, .int 0), (1, .int (qAbout 16 z)), (0, .ref h)]) hx hb dL_sound_94 hl (by decide) rfl (fun ls hl => ?_)
          have LOOP96_15 : ∀ (n_16 : Nat) (t : Nat) (ht : t ≤ (tn (z 4 0))) (hn_18 : (tn (z 4 0)) + 1 - t < n_16) (w : va_W) (hO : OB y h T z Hs s0 s1 w) (H : Heap) (locs : List Loc) (hP : va_P G vwCl w H) (hD : va_D A w) (hS : va_S A s.heap H locs) (ls : Array Slot) (hl : lv_has ls 12 [(9, .int (nI t)), (8, .int 1), (7, .int (sgO z t)), (6, .int (sgU z t)), (5, .int (s_X11_middle_r 1 z)), (4, .int (s_X11_middle_r 0 z)), (3, .int (qAbout 7 z)), (2, .int (sgG z t)), (1, .int (qAbout 16 z)), (0, .ref h)]), W p l e (headSpec wsL_sound rmL_sound).room s m ([.ref h] : List Value).toArray below meth c H locs (7 + t * 11) (42 + t * 66) QQ (F0 m 96 ls []) := by
            intro n_16
            induction n_16 with
            | zero => intro t ht hn_18 w hO H locs hP hD hS ls hl; exact absurd hn_18 (Nat.not_lt_zero _)
            | succ n_16 ih_17 =>
              intro t ht hn_18 w hO H locs hP hD hS ls hl
              have hn20 : (tn (z 4 0)) ≤ 20 := ts_n hz
              refine lv_iload hx hb dL_sound_96 (lv_at hl 0 rfl) ?_
              refine lv_iload_n hx hb dL_sound_98 rfl (lv_at hl 8 rfl) ?_
              refine lv_icmp_ge (tgt := 315) hx hb dL_sound_99 (by decide) (fun c_19 => ?_) (fun c_19 => ?_)
              · have ex : t = (tn (z 4 0)) := (x_99 t ht c_19)
                subst ex
                refine W.widen (k := 227) (n := 1362) (by omega) (by omega) ?_
                refine lv_aload_n hx hb dL_sound_315 rfl (lv_at hl 9 rfl) ?_
                refine lv_bipush (v := 13) hx hb dL_sound_316 (by decide) ?_
                refine cl_O (Φ := (fun w9 => OB y h T z Hs s0 s1 w9)) (vx_runSX (As := [.ref h, .int 13]) (rest := []) ⟨hx, hb, hml, hown, hts⟩ (w_about l G y h 13 w T z Hs s0 s1 H.size hO hz  hfl) (vx_cwSW 2 hts gL_sound_L_tryAbout rfl rfl rfl (by decide +kernel) ⟨Nat.le_of_ble_eq_true rfl, Nat.le_of_ble_eq_true rfl⟩) (PHZ_S hP hK hN hD hTY hS (F_0 hD hS hA)) rfl rfl hl.1 rfl (lv_room (Nat.le_of_ble_eq_true rfl)) dL_sound_318 ⟨Nat.le_of_ble_eq_true rfl, Nat.le_of_ble_eq_true rfl⟩) hD hS hA (fun w H locs hO hP hD hS => ?_)
                refine lv_istore (lv' := [(9, .int (qAbout 13 z)), (8, .int 1), (7, .int (sgO z (tn (z 4 0)))), (6, .int (sgU z (tn (z 4 0)))), (5, .int (s_X11_middle_r 1 z)), (4, .int (s_X11_middle_r 0 z)), (3, .int (qAbout 7 z)), (2, .int (sgG z (tn (z 4 0)))), (1, .int (qAbout 16 z)), (0, .ref h)]) hx hb dL_sound_321 hl (by decide) rfl (fun ls hl => ?_)
                refine lv_iload hx hb dL_sound_323 (lv_at hl 1 rfl) ?_
                refine lv_if_eq (tgt := 498) hx hb dL_sound_325 (by decide) (fun c_20 => (by first | exact absurd c_20 (by decide : ¬ ((1 : Int32) = 0)) | exact absurd (by decide : ¬ ((1 : Int32) = 0)) c_20)) (fun _ => ?_)
                refine lv_aload_n hx hb dL_sound_328 rfl (lv_at hl 9 rfl) ?_
                refine lv_bipush (v := 17) hx hb dL_sound_329 (by decide) ?_
                refine cl_O (Φ := (fun w9 => OB y h T z Hs s0 s1 w9)) (vx_runSX (As := [.ref h, .int 17]) (rest := []) ⟨hx, hb, hml, hown, hts⟩ (w_about l G y h 17 w T z Hs s0 s1 H.size hO hz  hfl) (vx_cwSW 2 hts gL_sound_L_tryAbout rfl rfl rfl (by decide +kernel) ⟨Nat.le_of_ble_eq_true rfl, Nat.le_of_ble_eq_true rfl⟩) (PHZ_S hP hK hN hD hTY hS (F_0 hD hS hA)) rfl rfl hl.1 rfl (lv_room (Nat.le_of_ble_eq_true rfl)) dL_sound_331 ⟨Nat.le_of_ble_eq_true rfl, Nat.le_of_ble_eq_true rfl⟩) hD hS hA (fun w H locs hO hP hD hS => ?_)
                refine lv_iload_n hx hb dL_sound_334 rfl (lv_at hl 7 rfl) ?_
                refine lv_icmp_ne (tgt := 498) hx hb dL_sound_335 (by decide) (fun c9 => absurd f_335 c9) (fun _ => ?_)
                refine lv_iconst (v := 2) hx hb dL_sound_338 (by decide) ?_
                refine lv_iload hx hb dL_sound_339 (lv_at hl 3 rfl) ?_
                refine lv_imul hx hb dL_sound_341 ?_
                refine lv_iload_n hx hb dL_sound_342 rfl (lv_at hl 8 rfl) ?_
                refine lv_icmp_gt (tgt := 498) hx hb dL_sound_343 (by decide) (fun c9 => absurd c9 f_343) (fun _ => ?_)
                refine lv_iconst (v := 2) hx hb dL_sound_346 (by decide) ?_
                refine lv_iload hx hb dL_sound_347 (lv_at hl 2 rfl) ?_
                refine lv_imul hx hb dL_sound_349 ?_
                refine lv_iload_n hx hb dL_sound_350 rfl (lv_at hl 8 rfl) ?_
                refine lv_icmp_gt (tgt := 498) hx hb dL_sound_351 (by decide) (fun c9 => absurd c9 f_351) (fun _ => ?_)
                refine lv_iload hx hb dL_sound_354 (lv_at hl 0 rfl) ?_
                refine lv_aload_n hx hb dL_sound_356 rfl (lv_at hl 9 rfl) ?_
                refine lv_iconst (v := 0) hx hb dL_sound_357 (by decide) ?_
                refine cl_O (Φ := (fun w9 => OB y h T z Hs s0 s1 w9)) (vx_runSX (As := [.ref h, .int 0]) (rest := [.int (qAbout 13 z)]) ⟨hx, hb, hml, hown, hts⟩ (w_account l G y h 0 w T z Hs s0 s1 H.size hO hz  hfl) (vx_cwSW 2 hts gL_sound_L_tryAccount rfl rfl rfl (by decide +kernel) ⟨Nat.le_of_ble_eq_true rfl, Nat.le_of_ble_eq_true rfl⟩) (PHZ_S hP hK hN hD hTY hS (F_0 hD hS hA)) rfl rfl hl.1 rfl (lv_room (Nat.le_of_ble_eq_true rfl)) dL_sound_358 ⟨Nat.le_of_ble_eq_true rfl, Nat.le_of_ble_eq_true rfl⟩) hD hS hA (fun w H locs hO hP hD hS => ?_)
                refine lv_aload_n hx hb dL_sound_361 rfl (lv_at hl 9 rfl) ?_
                refine lv_iconst (v := 1) hx hb dL_sound_362 (by decide) ?_
                refine cl_O (Φ := (fun w9 => OB y h T z Hs s0 s1 w9)) (vx_runSX (As := [.ref h, .int 1]) (rest := [.int (qAcc 0 z), .int (qAbout 13 z)]) ⟨hx, hb, hml, hown, hts⟩ (w_account l G y h 1 w T z Hs s0 s1 H.size hO hz  hfl) (vx_cwSW 2 hts gL_sound_L_tryAccount rfl rfl rfl (by decide +kernel) ⟨Nat.le_of_ble_eq_true rfl, Nat.le_of_ble_eq_true rfl⟩) (PHZ_S hP hK hN hD hTY hS (F_0 hD hS hA)) rfl rfl hl.1 rfl (lv_room (Nat.le_of_ble_eq_true rfl)) dL_sound_363 ⟨Nat.le_of_ble_eq_true rfl, Nat.le_of_ble_eq_true rfl⟩) hD hS hA (fun w H locs hO hP hD hS => ?_)
                refine lv_iadd hx hb dL_sound_366 ?_
                refine lv_aload_n hx hb dL_sound_367 rfl (lv_at hl 9 rfl) ?_
                refine lv_iconst (v := 2) hx hb dL_sound_368 (by decide) ?_
                refine cl_O (Φ := (fun w9 => OB y h T z Hs s0 s1 w9)) (vx_runSX (As := [.ref h, .int 2]) (rest := [.int ((qAcc 0 z) + (qAcc 1 z)), .int (qAbout 13 z)]) ⟨hx, hb, hml, hown, hts⟩ (w_account l G y h 2 w T z Hs s0 s1 H.size hO hz  hfl) (vx_cwSW 2 hts gL_sound_L_tryAccount rfl rfl rfl (by decide +kernel) ⟨Nat.le_of_ble_eq_true rfl, Nat.le_of_ble_eq_true rfl⟩) (PHZ_S hP hK hN hD hTY hS (F_0 hD hS hA)) rfl rfl hl.1 rfl (lv_room (Nat.le_of_ble_eq_true rfl)) dL_sound_369 ⟨Nat.le_of_ble_eq_true rfl, Nat.le_of_ble_eq_true rfl⟩) hD hS hA (fun w H locs hO hP hD hS => ?_)
                refine lv_iadd hx hb dL_sound_372 ?_
                refine lv_icmp_ne (tgt := 498) hx hb dL_sound_373 (by decide) (fun c9 => absurd f_373 c9) (fun _ => ?_)
                refine lv_aload_n hx hb dL_sound_376 rfl (lv_at hl 9 rfl) ?_
                refine lv_iconst (v := 3) hx hb dL_sound_377 (by decide) ?_
                refine cl_O (Φ := (fun w9 => OB y h T z Hs s0 s1 w9)) (vx_runSX (As := [.ref h, .int 3]) (rest := []) ⟨hx, hb, hml, hown, hts⟩ (w_account l G y h 3 w T z Hs s0 s1 H.size hO hz  hfl) (vx_cwSW 2 hts gL_sound_L_tryAccount rfl rfl rfl (by decide +kernel) ⟨Nat.le_of_ble_eq_true rfl, Nat.le_of_ble_eq_true rfl⟩) (PHZ_S hP hK hN hD hTY hS (F_0 hD hS hA)) rfl rfl hl.1 rfl (lv_room (Nat.le_of_ble_eq_true rfl)) dL_sound_378 ⟨Nat.le_of_ble_eq_true rfl, Nat.le_of_ble_eq_true rfl⟩) hD hS hA (fun w H locs hO hP hD hS => ?_)
                refine lv_iload hx hb dL_sound_381 (lv_at hl 0 rfl) ?_
                refine lv_aload_n hx hb dL_sound_383 rfl (lv_at hl 9 rfl) ?_
                refine lv_iconst (v := 4) hx hb dL_sound_384 (by decide) ?_
                refine cl_O (Φ := (fun w9 => OB y h T z Hs s0 s1 w9)) (vx_runSX (As := [.ref h, .int 4]) (rest := [.int (qAbout 13 z), .int (qAcc 3 z)]) ⟨hx, hb, hml, hown, hts⟩ (w_about l G y h 4 w T z Hs s0 s1 H.size hO hz  hfl) (vx_cwSW 2 hts gL_sound_L_tryAbout rfl rfl rfl (by decide +kernel) ⟨Nat.le_of_ble_eq_true rfl, Nat.le_of_ble_eq_true rfl⟩) (PHZ_S hP hK hN hD hTY hS (F_0 hD hS hA)) rfl rfl hl.1 rfl (lv_room (Nat.le_of_ble_eq_true rfl)) dL_sound_385 ⟨Nat.le_of_ble_eq_true rfl, Nat.le_of_ble_eq_true rfl⟩) hD hS hA (fun w H locs hO hP hD hS => ?_)
                refine lv_imul hx hb dL_sound_388 ?_
                refine lv_icmp_gt (tgt := 498) hx hb dL_sound_389 (by decide) (fun c9 => absurd c9 f_389) (fun _ => ?_)
                refine lv_aload_n hx hb dL_sound_392 rfl (lv_at hl 9 rfl) ?_
                refine lv_iconst (v := 4) hx hb dL_sound_393 (by decide) ?_
                refine cl_O (Φ := (fun w9 => OB y h T z Hs s0 s1 w9)) (vx_runSX (As := [.ref h, .int 4]) (rest := []) ⟨hx, hb, hml, hown, hts⟩ (w_account l G y h 4 w T z Hs s0 s1 H.size hO hz  hfl) (vx_cwSW 2 hts gL_sound_L_tryAccount rfl rfl rfl (by decide +kernel) ⟨Nat.le_of_ble_eq_true rfl, Nat.le_of_ble_eq_true rfl⟩) (PHZ_S hP hK hN hD hTY hS (F_0 hD hS hA)) rfl rfl hl.1 rfl (lv_room (Nat.le_of_ble_eq_true rfl)) dL_sound_394 ⟨Nat.le_of_ble_eq_true rfl, Nat.le_of_ble_eq_true rfl⟩) hD hS hA (fun w H locs hO hP hD hS => ?_)
                refine lv_iload hx hb dL_sound_397 (lv_at hl 0 rfl) ?_
                refine lv_icmp_gt (tgt := 498) hx hb dL_sound_399 (by decide) (fun c9 => absurd c9 f_399) (fun _ => ?_)
                refine lv_iload_n hx hb dL_sound_402 rfl (lv_at hl 8 rfl) ?_
                have J417_28 : ∀  (w : va_W) (hO : OB y h T z Hs s0 s1 w) (H : Heap) (locs : List Loc) (hP : va_P G vwCl w H) (hD : va_D A w) (hS : va_S A s.heap H locs) (ls : Array Slot) (hl : lv_has ls 12 [(0, .ref h)]), W p l e (headSpec wsL_sound rmL_sound).room s m ([.ref h] : List Value).toArray below meth c H locs 236 1416 QQ (F0 m 417 ls []) := by
                  intro w hO H locs hP hD hS ls hl
                  refine lv_aload_n hx hb dL_sound_417 rfl (lv_at hl 0 rfl) ?_
                  refine lv_bipush (v := 18) hx hb dL_sound_418 (by decide) ?_
                  refine cl_O (Φ := (fun w9 => OB y h T z Hs s0 s1 w9)) (vx_runSX (As := [.ref h, .int 18]) (rest := []) ⟨hx, hb, hml, hown, hts⟩ (w_about l G y h 18 w T z Hs s0 s1 H.size hO hz  hfl) (vx_cwSW 2 hts gL_sound_L_tryAbout rfl rfl rfl (by decide +kernel) ⟨Nat.le_of_ble_eq_true rfl, Nat.le_of_ble_eq_true rfl⟩) (PHZ_S hP hK hN hD hTY hS (F_0 hD hS hA)) rfl rfl hl.1 rfl (lv_room (Nat.le_of_ble_eq_true rfl)) dL_sound_420 ⟨Nat.le_of_ble_eq_true rfl, Nat.le_of_ble_eq_true rfl⟩) hD hS hA (fun w H locs hO hP hD hS => ?_)
                  refine lv_if_lt (tgt := 498) hx hb dL_sound_423 (by decide) (fun c9 => absurd c9 f_423) (fun _ => ?_)
                  refine lv_aload_n hx hb dL_sound_426 rfl (lv_at hl 0 rfl) ?_
                  refine lv_bipush (v := 18) hx hb dL_sound_427 (by decide) ?_
                  refine cl_O (Φ := (fun w9 => OB y h T z Hs s0 s1 w9)) (vx_runSX (As := [.ref h, .int 18]) (rest := []) ⟨hx, hb, hml, hown, hts⟩ (w_about l G y h 18 w T z Hs s0 s1 H.size hO hz  hfl) (vx_cwSW 2 hts gL_sound_L_tryAbout rfl rfl rfl (by decide +kernel) ⟨Nat.le_of_ble_eq_true rfl, Nat.le_of_ble_eq_true rfl⟩) (PHZ_S hP hK hN hD hTY hS (F_0 hD hS hA)) rfl rfl hl.1 rfl (lv_room (Nat.le_of_ble_eq_true rfl)) dL_sound_429 ⟨Nat.le_of_ble_eq_true rfl, Nat.le_of_ble_eq_true rfl⟩) hD hS hA (fun w H locs hO hP hD hS => ?_)
                  refine lv_bipush (v := 8) hx hb dL_sound_432 (by decide) ?_
                  refine lv_icmp_gt (tgt := 498) hx hb dL_sound_434 (by decide) (fun c9 => absurd c9 f_434) (fun _ => ?_)
                  refine lv_aload_n hx hb dL_sound_437 rfl (lv_at hl 0 rfl) ?_
                  refine lv_bipush (v := 11) hx hb dL_sound_438 (by decide) ?_
                  refine cl_O (Φ := (fun w9 => OB y h T z Hs s0 s1 w9)) (vx_runSX (As := [.ref h, .int 11]) (rest := []) ⟨hx, hb, hml, hown, hts⟩ (w_about l G y h 11 w T z Hs s0 s1 H.size hO hz  hfl) (vx_cwSW 2 hts gL_sound_L_tryAbout rfl rfl rfl (by decide +kernel) ⟨Nat.le_of_ble_eq_true rfl, Nat.le_of_ble_eq_true rfl⟩) (PHZ_S hP hK hN hD hTY hS (F_0 hD hS hA)) rfl rfl hl.1 rfl (lv_room (Nat.le_of_ble_eq_true rfl)) dL_sound_440 ⟨Nat.le_of_ble_eq_true rfl, Nat.le_of_ble_eq_true rfl⟩) hD hS hA (fun w H locs hO hP hD hS => ?_)
                  refine lv_iconst (v := 1) hx hb dL_sound_443 (by decide) ?_
                  have J456_32 : ∀  (w : va_W) (hO : OB y h T z Hs s0 s1 w) (H : Heap) (locs : List Loc) (hP : va_P G vwCl w H) (hD : va_D A w) (hS : va_S A s.heap H locs) (ls : Array Slot) (hl : lv_has ls 12 [(0, .ref h)]), W p l e (headSpec wsL_sound rmL_sound).room s m ([.ref h] : List Value).toArray below meth c H locs 240 1440 QQ (F0 m 456 ls []) := by
                    intro w hO H locs hP hD hS ls hl
                    refine lv_aload_n hx hb dL_sound_456 rfl (lv_at hl 0 rfl) ?_
                    refine lv_bipush (v := 15) hx hb dL_sound_457 (by decide) ?_
                    refine cl_O (Φ := (fun w9 => OB y h T z Hs s0 s1 w9)) (vx_runSX (As := [.ref h, .int 15]) (rest := []) ⟨hx, hb, hml, hown, hts⟩ (w_about l G y h 15 w T z Hs s0 s1 H.size hO hz  hfl) (vx_cwSW 2 hts gL_sound_L_tryAbout rfl rfl rfl (by decide +kernel) ⟨Nat.le_of_ble_eq_true rfl, Nat.le_of_ble_eq_true rfl⟩) (PHZ_S hP hK hN hD hTY hS (F_0 hD hS hA)) rfl rfl hl.1 rfl (lv_room (Nat.le_of_ble_eq_true rfl)) dL_sound_459 ⟨Nat.le_of_ble_eq_true rfl, Nat.le_of_ble_eq_true rfl⟩) hD hS hA (fun w H locs hO hP hD hS => ?_)
                    refine cl_Ri (va_runS (As := [.int (qAbout 15 z)]) (rest := []) ⟨hx, hb, hml, hown, hts⟩ (c_L_size l G y (qAbout 15 z)) (va_cwS 1 hts gL_sound_L_size rfl rfl rfl (by decide +kernel) ⟨Nat.le_of_ble_eq_true rfl, Nat.le_of_ble_eq_true rfl⟩) (PR_S pnil hK hN) rfl rfl hl.1 rfl (lv_room (Nat.le_of_ble_eq_true rfl)) dL_sound_462 ⟨Nat.le_of_ble_eq_true rfl, Nat.le_of_ble_eq_true rfl⟩) ?_
                    refine lv_sipush (v := 9999) hx hb dL_sound_465 (by decide) ?_
                    refine lv_icmp_gt (tgt := 498) hx hb dL_sound_468 (by decide) (fun c9 => absurd c9 f_468) (fun _ => ?_)
                    refine lv_aload_n hx hb dL_sound_471 rfl (lv_at hl 0 rfl) ?_
                    refine lv_bipush (v := 19) hx hb dL_sound_472 (by decide) ?_
                    refine cl_O (Φ := (fun w9 => OB y h T z Hs s0 s1 w9)) (vx_runSX (As := [.ref h, .int 19]) (rest := []) ⟨hx, hb, hml, hown, hts⟩ (w_about l G y h 19 w T z Hs s0 s1 H.size hO hz  hfl) (vx_cwSW 2 hts gL_sound_L_tryAbout rfl rfl rfl (by decide +kernel) ⟨Nat.le_of_ble_eq_true rfl, Nat.le_of_ble_eq_true rfl⟩) (PHZ_S hP hK hN hD hTY hS (F_0 hD hS hA)) rfl rfl hl.1 rfl (lv_room (Nat.le_of_ble_eq_true rfl)) dL_sound_474 ⟨Nat.le_of_ble_eq_true rfl, Nat.le_of_ble_eq_true rfl⟩) hD hS hA (fun w H locs hO hP hD hS => ?_)
                    refine lv_if_lt (tgt := 498) hx hb dL_sound_477 (by decide) (fun c9 => absurd c9 f_477) (fun _ => ?_)
                    refine lv_aload_n hx hb dL_sound_480 rfl (lv_at hl 0 rfl) ?_
                    refine lv_bipush (v := 19) hx hb dL_sound_481 (by decide) ?_
                    refine cl_O (Φ := (fun w9 => OB y h T z Hs s0 s1 w9)) (vx_runSX (As := [.ref h, .int 19]) (rest := []) ⟨hx, hb, hml, hown, hts⟩ (w_about l G y h 19 w T z Hs s0 s1 H.size hO hz  hfl) (vx_cwSW 2 hts gL_sound_L_tryAbout rfl rfl rfl (by decide +kernel) ⟨Nat.le_of_ble_eq_true rfl, Nat.le_of_ble_eq_true rfl⟩) (PHZ_S hP hK hN hD hTY hS (F_0 hD hS hA)) rfl rfl hl.1 rfl (lv_room (Nat.le_of_ble_eq_true rfl)) dL_sound_483 ⟨Nat.le_of_ble_eq_true rfl, Nat.le_of_ble_eq_true rfl⟩) hD hS hA (fun w H locs hO hP hD hS => ?_)
                    refine lv_aload_n hx hb dL_sound_486 rfl (lv_at hl 0 rfl) ?_
                    refine lv_iconst (v := 4) hx hb dL_sound_487 (by decide) ?_
                    refine cl_O (Φ := (fun w9 => OB y h T z Hs s0 s1 w9)) (vx_runSX (As := [.ref h, .int 4]) (rest := [.int (qAbout 19 z)]) ⟨hx, hb, hml, hown, hts⟩ (w_about l G y h 4 w T z Hs s0 s1 H.size hO hz  hfl) (vx_cwSW 2 hts gL_sound_L_tryAbout rfl rfl rfl (by decide +kernel) ⟨Nat.le_of_ble_eq_true rfl, Nat.le_of_ble_eq_true rfl⟩) (PHZ_S hP hK hN hD hTY hS (F_0 hD hS hA)) rfl rfl hl.1 rfl (lv_room (Nat.le_of_ble_eq_true rfl)) dL_sound_488 ⟨Nat.le_of_ble_eq_true rfl, Nat.le_of_ble_eq_true rfl⟩) hD hS hA (fun w H locs hO hP hD hS => ?_)
                    refine lv_icmp_gt (tgt := 498) hx hb dL_sound_491 (by decide) (fun c9 => absurd c9 f_491) (fun _ => ?_)
                    refine lv_iconst (v := 1) hx hb dL_sound_494 (by decide) ?_
                    refine lv_goto (tgt := 499) hx hb dL_sound_495 (by decide) ?_
                    rw [hQQ]
                    refine W.widen (k := 245) (n := 1470) (by omega) (by omega) ?_
                    exact W.zret hx hb hr (nz_bool (Or.inr rfl)) (end_O hO hP hD hS rfl) hS.2.2 dL_sound_499
                  refine lv_icmp_eq (tgt := 456) hx hb dL_sound_444 (by decide) (fun c_31 => ?_) (fun c_31 => ?_)
                  · refine W.widen (k := 240) (n := 1440) (by omega) (by omega) ?_
                    exact J456_32 w hO H locs hP hD hS ls (lv_sub hl [0] rfl)
                  · refine lv_aload_n hx hb dL_sound_447 rfl (lv_at hl 0 rfl) ?_
                    refine lv_bipush (v := 14) hx hb dL_sound_448 (by decide) ?_
                    refine cl_O (Φ := (fun w9 => OB y h T z Hs s0 s1 w9)) (vx_runSX (As := [.ref h, .int 14]) (rest := []) ⟨hx, hb, hml, hown, hts⟩ (w_about l G y h 14 w T z Hs s0 s1 H.size hO hz  hfl) (vx_cwSW 2 hts gL_sound_L_tryAbout rfl rfl rfl (by decide +kernel) ⟨Nat.le_of_ble_eq_true rfl, Nat.le_of_ble_eq_true rfl⟩) (PHZ_S hP hK hN hD hTY hS (F_0 hD hS hA)) rfl rfl hl.1 rfl (lv_room (Nat.le_of_ble_eq_true rfl)) dL_sound_450 ⟨Nat.le_of_ble_eq_true rfl, Nat.le_of_ble_eq_true rfl⟩) hD hS hA (fun w H locs hO hP hD hS => ?_)
                    refine lv_if_ne (tgt := 498) hx hb dL_sound_453 (by decide) (fun c9 => absurd (f_453 c_31) c9) (fun _ => ?_)
                    exact J456_32 w hO H locs hP hD hS ls (lv_sub hl [0] rfl)
                refine lv_if_eq (tgt := 417) hx hb dL_sound_403 (by decide) (fun c_27 => ?_) (fun c_27 => ?_)
                · refine W.widen (k := 236) (n := 1416) (by omega) (by omega) ?_
                  exact J417_28 w hO H locs hP hD hS ls (lv_sub hl [9] rfl)
                · refine lv_aload_n hx hb dL_sound_406 rfl (lv_at hl 9 rfl) ?_
                  refine lv_iconst (v := 5) hx hb dL_sound_407 (by decide) ?_
                  refine cl_O (Φ := (fun w9 => OB y h T z Hs s0 s1 w9)) (vx_runSX (As := [.ref h, .int 5]) (rest := []) ⟨hx, hb, hml, hown, hts⟩ (w_account l G y h 5 w T z Hs s0 s1 H.size hO hz  hfl) (vx_cwSW 2 hts gL_sound_L_tryAccount rfl rfl rfl (by decide +kernel) ⟨Nat.le_of_ble_eq_true rfl, Nat.le_of_ble_eq_true rfl⟩) (PHZ_S hP hK hN hD hTY hS (F_0 hD hS hA)) rfl rfl hl.1 rfl (lv_room (Nat.le_of_ble_eq_true rfl)) dL_sound_408 ⟨Nat.le_of_ble_eq_true rfl, Nat.le_of_ble_eq_true rfl⟩) hD hS hA (fun w H locs hO hP hD hS => ?_)
                  refine lv_iload_n hx hb dL_sound_411 rfl (lv_at hl 8 rfl) ?_
                  refine lv_iconst (v := 1) hx hb dL_sound_412 (by decide) ?_
                  refine lv_isub hx hb dL_sound_413 ?_
                  refine lv_icmp_le (tgt := 498) hx hb dL_sound_414 (by decide) (fun c9 => absurd c9 (f_414 c_27)) (fun _ => ?_)
                  exact J417_28 w hO H locs hP hD hS ls (lv_sub hl [9] rfl)
              · have hlt : t < (tn (z 4 0)) := (l_99 t ht c_19)
                refine lv_iload hx hb dL_sound_102 (lv_at hl 1 rfl) ?_
                refine lv_if_eq (tgt := 315) hx hb dL_sound_104 (by decide) (fun c_38 => (by first | exact absurd c_38 (by decide : ¬ ((1 : Int32) = 0)) | exact absurd (by decide : ¬ ((1 : Int32) = 0)) c_38)) (fun _ => ?_)
                refine lv_aload_n hx hb dL_sound_107 rfl (lv_at hl 9 rfl) ?_
                refine lv_iload hx hb dL_sound_108 (lv_at hl 0 rfl) ?_
                refine lv_iconst (v := 0) hx hb dL_sound_110 (by decide) ?_
                refine cl_O (Φ := (fun w9 => OB y h T z Hs s0 s1 w9)) (vx_runSX (As := [.ref h, .int (nI t), .int 0]) (rest := []) ⟨hx, hb, hml, hown, hts⟩ (w_swing l G y h (nI t) 0 w T z Hs s0 s1 H.size hO hz  hfl) (vx_cwSW 3 hts gL_sound_L_trySwing rfl rfl rfl (by decide +kernel) ⟨Nat.le_of_ble_eq_true rfl, Nat.le_of_ble_eq_true rfl⟩) (PHZ_S hP hK hN hD hTY hS (F_0 hD hS hA)) rfl rfl hl.1 rfl (lv_room (Nat.le_of_ble_eq_true rfl)) dL_sound_111 ⟨(show 7 + t * 11 + 1 ≤ 245 by omega), (show 42 + t * 66 + 6 ≤ 1470 by omega)⟩) hD hS hA (fun w H locs hO hP hD hS => ?_)
                refine lv_istore (lv' := [(10, .int (qSwing (nI t) 0 z)), (9, .int (nI t)), (8, .int 1), (7, .int (sgO z t)), (6, .int (sgU z t)), (5, .int (s_X11_middle_r 1 z)), (4, .int (s_X11_middle_r 0 z)), (3, .int (qAbout 7 z)), (2, .int (sgG z t)), (1, .int (qAbout 16 z)), (0, .ref h)]) hx hb dL_sound_114 hl (by decide) rfl (fun ls hl => ?_)
                refine lv_iload hx hb dL_sound_116 (lv_at hl 1 rfl) ?_
                have J174_41 : ∀ (v_40 : Int32) (e_v_40 : v_40 = (if (nI t) = 0 then (1 : Int32) else (if (100 * (sizeF ((qSwing (nI t) 0 z) - (s_X11_middle_r 0 z)))) ≤ ((qAbout 7 z) * (s_X11_middle_r 0 z)) then (if (100 * (sizeF ((spanF (nI t) z) - (s_X11_middle_r 1 z)))) ≤ ((qAbout 7 z) * (s_X11_middle_r 1 z)) then (0 : Int32) else (3 : Int32)) else (2 : Int32)))) (w : va_W) (hO : OB y h T z Hs s0 s1 w) (H : Heap) (locs : List Loc) (hP : va_P G vwCl w H) (hD : va_D A w) (hS : va_S A s.heap H locs) (ls : Array Slot) (hl : lv_has ls 12 [(10, .int (qSwing (nI t) 0 z)), (9, .int (nI t)), (7, .int (sgO z t)), (6, .int (sgU z t)), (5, .int (s_X11_middle_r 1 z)), (4, .int (s_X11_middle_r 0 z)), (3, .int (qAbout 7 z)), (2, .int (sgG z t)), (1, .int (qAbout 16 z)), (0, .ref h)]), W p l e (headSpec wsL_sound rmL_sound).room s m ([.ref h] : List Value).toArray below meth c H locs (7 + t * 11 + 3) (42 + t * 66 + 18) QQ (F0 m 174 ls [.int v_40]) := by
                  intro v_40 e_v_40 w hO H locs hP hD hS ls hl
                  subst e_v_40
                  refine lv_istore (lv' := [(11, .int (if (nI t) = 0 then (1 : Int32) else (if (100 * (sizeF ((qSwing (nI t) 0 z) - (s_X11_middle_r 0 z)))) ≤ ((qAbout 7 z) * (s_X11_middle_r 0 z)) then (if (100 * (sizeF ((spanF (nI t) z) - (s_X11_middle_r 1 z)))) ≤ ((qAbout 7 z) * (s_X11_middle_r 1 z)) then (0 : Int32) else (3 : Int32)) else (2 : Int32)))), (10, .int (qSwing (nI t) 0 z)), (9, .int (nI t)), (7, .int (sgO z t)), (6, .int (sgU z t)), (5, .int (s_X11_middle_r 1 z)), (4, .int (s_X11_middle_r 0 z)), (3, .int (qAbout 7 z)), (2, .int (sgG z t)), (1, .int (qAbout 16 z)), (0, .ref h)]) hx hb dL_sound_174 hl (by decide) rfl (fun ls hl => ?_)
                  refine lv_iload_n hx hb dL_sound_176 rfl (lv_at hl 8 rfl) ?_
                  refine lv_iload hx hb dL_sound_177 (lv_at hl 0 rfl) ?_
                  have J187_44 : ∀ (v_43 : Int32) (e_v_43 : v_43 = (if (if (nI t) = 0 then (1 : Int32) else (if (100 * (sizeF ((qSwing (nI t) 0 z) - (s_X11_middle_r 0 z)))) ≤ ((qAbout 7 z) * (s_X11_middle_r 0 z)) then (if (100 * (sizeF ((spanF (nI t) z) - (s_X11_middle_r 1 z)))) ≤ ((qAbout 7 z) * (s_X11_middle_r 1 z)) then (0 : Int32) else (3 : Int32)) else (2 : Int32))) = 0 then (1 : Int32) else (0 : Int32))) (w : va_W) (hO : OB y h T z Hs s0 s1 w) (H : Heap) (locs : List Loc) (hP : va_P G vwCl w H) (hD : va_D A w) (hS : va_S A s.heap H locs) (ls : Array Slot) (hl : lv_has ls 12 [(11, .int (if (nI t) = 0 then (1 : Int32) else (if (100 * (sizeF ((qSwing (nI t) 0 z) - (s_X11_middle_r 0 z)))) ≤ ((qAbout 7 z) * (s_X11_middle_r 0 z)) then (if (100 * (sizeF ((spanF (nI t) z) - (s_X11_middle_r 1 z)))) ≤ ((qAbout 7 z) * (s_X11_middle_r 1 z)) then (0 : Int32) else (3 : Int32)) else (2 : Int32)))), (10, .int (qSwing (nI t) 0 z)), (9, .int (nI t)), (7, .int (sgO z t)), (6, .int (sgU z t)), (5, .int (s_X11_middle_r 1 z)), (4, .int (s_X11_middle_r 0 z)), (3, .int (qAbout 7 z)), (1, .int (qAbout 16 z)), (0, .ref h)]), W p l e (headSpec wsL_sound rmL_sound).room s m ([.ref h] : List Value).toArray below meth c H locs (7 + t * 11 + 3) (42 + t * 66 + 18) QQ (F0 m 187 ls [.int v_43, .int (sgG z t)]) := by
                    intro v_43 e_v_43 w hO H locs hP hD hS ls hl
                    subst e_v_43
                    refine lv_iadd hx hb dL_sound_187 ?_
                    refine lv_istore_n (lv' := [(2, .int ((sgG z t) + (if (if (nI t) = 0 then (1 : Int32) else (if (100 * (sizeF ((qSwing (nI t) 0 z) - (s_X11_middle_r 0 z)))) ≤ ((qAbout 7 z) * (s_X11_middle_r 0 z)) then (if (100 * (sizeF ((spanF (nI t) z) - (s_X11_middle_r 1 z)))) ≤ ((qAbout 7 z) * (s_X11_middle_r 1 z)) then (0 : Int32) else (3 : Int32)) else (2 : Int32))) = 0 then (1 : Int32) else (0 : Int32)))), (11, .int (if (nI t) = 0 then (1 : Int32) else (if (100 * (sizeF ((qSwing (nI t) 0 z) - (s_X11_middle_r 0 z)))) ≤ ((qAbout 7 z) * (s_X11_middle_r 0 z)) then (if (100 * (sizeF ((spanF (nI t) z) - (s_X11_middle_r 1 z)))) ≤ ((qAbout 7 z) * (s_X11_middle_r 1 z)) then (0 : Int32) else (3 : Int32)) else (2 : Int32)))), (10, .int (qSwing (nI t) 0 z)), (9, .int (nI t)), (7, .int (sgO z t)), (6, .int (sgU z t)), (5, .int (s_X11_middle_r 1 z)), (4, .int (s_X11_middle_r 0 z)), (3, .int (qAbout 7 z)), (1, .int (qAbout 16 z)), (0, .ref h)]) hx hb dL_sound_188 rfl hl (by decide) rfl (fun ls hl => ?_)
                    refine lv_iload hx hb dL_sound_189 (lv_at hl 5 rfl) ?_
                    refine lv_iload hx hb dL_sound_191 (lv_at hl 3 rfl) ?_
                    have J208_47 : ∀ (v_46 : Int32) (e_v_46 : v_46 = (if (nI t) ≤ 0 then (0 : Int32) else (if (s_X11_middle_r 0 z) ≤ (qSwing (nI t) 0 z) then (0 : Int32) else (1 : Int32)))) (w : va_W) (hO : OB y h T z Hs s0 s1 w) (H : Heap) (locs : List Loc) (hP : va_P G vwCl w H) (hD : va_D A w) (hS : va_S A s.heap H locs) (ls : Array Slot) (hl : lv_has ls 12 [(2, .int ((sgG z t) + (if (if (nI t) = 0 then (1 : Int32) else (if (100 * (sizeF ((qSwing (nI t) 0 z) - (s_X11_middle_r 0 z)))) ≤ ((qAbout 7 z) * (s_X11_middle_r 0 z)) then (if (100 * (sizeF ((spanF (nI t) z) - (s_X11_middle_r 1 z)))) ≤ ((qAbout 7 z) * (s_X11_middle_r 1 z)) then (0 : Int32) else (3 : Int32)) else (2 : Int32))) = 0 then (1 : Int32) else (0 : Int32)))), (11, .int (if (nI t) = 0 then (1 : Int32) else (if (100 * (sizeF ((qSwing (nI t) 0 z) - (s_X11_middle_r 0 z)))) ≤ ((qAbout 7 z) * (s_X11_middle_r 0 z)) then (if (100 * (sizeF ((spanF (nI t) z) - (s_X11_middle_r 1 z)))) ≤ ((qAbout 7 z) * (s_X11_middle_r 1 z)) then (0 : Int32) else (3 : Int32)) else (2 : Int32)))), (10, .int (qSwing (nI t) 0 z)), (9, .int (nI t)), (7, .int (sgO z t)), (5, .int (s_X11_middle_r 1 z)), (4, .int (s_X11_middle_r 0 z)), (3, .int (qAbout 7 z)), (1, .int (qAbout 16 z)), (0, .ref h)]), W p l e (headSpec wsL_sound rmL_sound).room s m ([.ref h] : List Value).toArray below meth c H locs (7 + t * 11 + 3) (42 + t * 66 + 18) QQ (F0 m 208 ls [.int v_46, .int (sgU z t)]) := by
                      intro v_46 e_v_46 w hO H locs hP hD hS ls hl
                      subst e_v_46
                      refine lv_iadd hx hb dL_sound_208 ?_
                      refine lv_istore (lv' := [(6, .int ((sgU z t) + (if (nI t) ≤ 0 then (0 : Int32) else (if (s_X11_middle_r 0 z) ≤ (qSwing (nI t) 0 z) then (0 : Int32) else (1 : Int32))))), (2, .int ((sgG z t) + (if (if (nI t) = 0 then (1 : Int32) else (if (100 * (sizeF ((qSwing (nI t) 0 z) - (s_X11_middle_r 0 z)))) ≤ ((qAbout 7 z) * (s_X11_middle_r 0 z)) then (if (100 * (sizeF ((spanF (nI t) z) - (s_X11_middle_r 1 z)))) ≤ ((qAbout 7 z) * (s_X11_middle_r 1 z)) then (0 : Int32) else (3 : Int32)) else (2 : Int32))) = 0 then (1 : Int32) else (0 : Int32)))), (11, .int (if (nI t) = 0 then (1 : Int32) else (if (100 * (sizeF ((qSwing (nI t) 0 z) - (s_X11_middle_r 0 z)))) ≤ ((qAbout 7 z) * (s_X11_middle_r 0 z)) then (if (100 * (sizeF ((spanF (nI t) z) - (s_X11_middle_r 1 z)))) ≤ ((qAbout 7 z) * (s_X11_middle_r 1 z)) then (0 : Int32) else (3 : Int32)) else (2 : Int32)))), (10, .int (qSwing (nI t) 0 z)), (9, .int (nI t)), (7, .int (sgO z t)), (5, .int (s_X11_middle_r 1 z)), (4, .int (s_X11_middle_r 0 z)), (3, .int (qAbout 7 z)), (1, .int (qAbout 16 z)), (0, .ref h)]) hx hb dL_sound_209 hl (by decide) rfl (fun ls hl => ?_)
                      refine lv_iload hx hb dL_sound_211 (lv_at hl 5 rfl) ?_
                      refine lv_iload hx hb dL_sound_213 (lv_at hl 4 rfl) ?_
                      have J230_50 : ∀ (v_49 : Int32) (e_v_49 : v_49 = (if (nI t) ≤ 0 then (0 : Int32) else (if (qSwing (nI t) 0 z) ≤ (s_X11_middle_r 0 z) then (0 : Int32) else (1 : Int32)))) (w : va_W) (hO : OB y h T z Hs s0 s1 w) (H : Heap) (locs : List Loc) (hP : va_P G vwCl w H) (hD : va_D A w) (hS : va_S A s.heap H locs) (ls : Array Slot) (hl : lv_has ls 12 [(6, .int ((sgU z t) + (if (nI t) ≤ 0 then (0 : Int32) else (if (s_X11_middle_r 0 z) ≤ (qSwing (nI t) 0 z) then (0 : Int32) else (1 : Int32))))), (2, .int ((sgG z t) + (if (if (nI t) = 0 then (1 : Int32) else (if (100 * (sizeF ((qSwing (nI t) 0 z) - (s_X11_middle_r 0 z)))) ≤ ((qAbout 7 z) * (s_X11_middle_r 0 z)) then (if (100 * (sizeF ((spanF (nI t) z) - (s_X11_middle_r 1 z)))) ≤ ((qAbout 7 z) * (s_X11_middle_r 1 z)) then (0 : Int32) else (3 : Int32)) else (2 : Int32))) = 0 then (1 : Int32) else (0 : Int32)))), (11, .int (if (nI t) = 0 then (1 : Int32) else (if (100 * (sizeF ((qSwing (nI t) 0 z) - (s_X11_middle_r 0 z)))) ≤ ((qAbout 7 z) * (s_X11_middle_r 0 z)) then (if (100 * (sizeF ((spanF (nI t) z) - (s_X11_middle_r 1 z)))) ≤ ((qAbout 7 z) * (s_X11_middle_r 1 z)) then (0 : Int32) else (3 : Int32)) else (2 : Int32)))), (10, .int (qSwing (nI t) 0 z)), (9, .int (nI t)), (5, .int (s_X11_middle_r 1 z)), (4, .int (s_X11_middle_r 0 z)), (3, .int (qAbout 7 z)), (1, .int (qAbout 16 z)), (0, .ref h)]), W p l e (headSpec wsL_sound rmL_sound).room s m ([.ref h] : List Value).toArray below meth c H locs (7 + t * 11 + 3) (42 + t * 66 + 18) QQ (F0 m 230 ls [.int v_49, .int (sgO z t)]) := by
                        intro v_49 e_v_49 w hO H locs hP hD hS ls hl
                        subst e_v_49
                        refine lv_iadd hx hb dL_sound_230 ?_
                        refine lv_istore (lv' := [(7, .int ((sgO z t) + (if (nI t) ≤ 0 then (0 : Int32) else (if (qSwing (nI t) 0 z) ≤ (s_X11_middle_r 0 z) then (0 : Int32) else (1 : Int32))))), (6, .int ((sgU z t) + (if (nI t) ≤ 0 then (0 : Int32) else (if (s_X11_middle_r 0 z) ≤ (qSwing (nI t) 0 z) then (0 : Int32) else (1 : Int32))))), (2, .int ((sgG z t) + (if (if (nI t) = 0 then (1 : Int32) else (if (100 * (sizeF ((qSwing (nI t) 0 z) - (s_X11_middle_r 0 z)))) ≤ ((qAbout 7 z) * (s_X11_middle_r 0 z)) then (if (100 * (sizeF ((spanF (nI t) z) - (s_X11_middle_r 1 z)))) ≤ ((qAbout 7 z) * (s_X11_middle_r 1 z)) then (0 : Int32) else (3 : Int32)) else (2 : Int32))) = 0 then (1 : Int32) else (0 : Int32)))), (11, .int (if (nI t) = 0 then (1 : Int32) else (if (100 * (sizeF ((qSwing (nI t) 0 z) - (s_X11_middle_r 0 z)))) ≤ ((qAbout 7 z) * (s_X11_middle_r 0 z)) then (if (100 * (sizeF ((spanF (nI t) z) - (s_X11_middle_r 1 z)))) ≤ ((qAbout 7 z) * (s_X11_middle_r 1 z)) then (0 : Int32) else (3 : Int32)) else (2 : Int32)))), (10, .int (qSwing (nI t) 0 z)), (9, .int (nI t)), (5, .int (s_X11_middle_r 1 z)), (4, .int (s_X11_middle_r 0 z)), (3, .int (qAbout 7 z)), (1, .int (qAbout 16 z)), (0, .ref h)]) hx hb dL_sound_231 hl (by decide) rfl (fun ls hl => ?_)
                        refine lv_aload_n hx hb dL_sound_233 rfl (lv_at hl 10 rfl) ?_
                        refine lv_iload hx hb dL_sound_234 (lv_at hl 5 rfl) ?_
                        refine lv_iconst (v := 3) hx hb dL_sound_236 (by decide) ?_
                        refine cl_O (Φ := (fun w9 => OB y h T z Hs s0 s1 w9)) (vx_runSX (As := [.ref h, .int (nI t), .int 3]) (rest := []) ⟨hx, hb, hml, hown, hts⟩ (w_swing l G y h (nI t) 3 w T z Hs s0 s1 H.size hO hz  hfl) (vx_cwSW 3 hts gL_sound_L_trySwing rfl rfl rfl (by decide +kernel) ⟨Nat.le_of_ble_eq_true rfl, Nat.le_of_ble_eq_true rfl⟩) (PHZ_S hP hK hN hD hTY hS (F_0 hD hS hA)) rfl rfl hl.1 rfl (lv_room (Nat.le_of_ble_eq_true rfl)) dL_sound_237 ⟨(show 7 + t * 11 + 3 + 1 ≤ 245 by omega), (show 42 + t * 66 + 18 + 6 ≤ 1470 by omega)⟩) hD hS hA (fun w H locs hO hP hD hS => ?_)
                        refine lv_iload hx hb dL_sound_240 (lv_at hl 3 rfl) ?_
                        refine lv_icmp_ne (tgt := 306) hx hb dL_sound_242 (by decide) (fun c9 => absurd (f_242 t ht hlt) c9) (fun _ => ?_)
                        refine lv_iload hx hb dL_sound_245 (lv_at hl 4 rfl) ?_
                        refine lv_if_le (tgt := 306) hx hb dL_sound_247 (by decide) (fun c9 => absurd c9 (f_247 t ht hlt)) (fun _ => ?_)
                        refine lv_aload_n hx hb dL_sound_250 rfl (lv_at hl 10 rfl) ?_
                        refine lv_iload hx hb dL_sound_251 (lv_at hl 5 rfl) ?_
                        refine cl_OM (Φ := (fun w9 => OB y h T z Hs s0 s1 w9)) (va_runS (As := [.ref h, .int (nI t)]) (rest := []) ⟨hx, hb, hml, hown, hts⟩ (c_L_span l G y h (nI t) w T z Hs s0 s1 H.size hO hz (m_253 t ht hlt) hfl) (va_cwS 2 hts gL_sound_L_span rfl rfl rfl (by decide +kernel) ⟨Nat.le_of_ble_eq_true rfl, Nat.le_of_ble_eq_true rfl⟩) (PHZ_S hP hK hN hD hTY hS (F_0 hD hS hA)) rfl rfl hl.1 rfl (lv_room (Nat.le_of_ble_eq_true rfl)) dL_sound_253 ⟨(show 7 + t * 11 + 4 + 2 ≤ 245 by omega), (show 42 + t * 66 + 24 + 12 ≤ 1470 by omega)⟩) hD hS hA (fun w H locs hO hP hD hS => ?_)
                        refine lv_if_lt (tgt := 306) hx hb dL_sound_256 (by decide) (fun c9 => absurd c9 (f_256 t ht hlt)) (fun _ => ?_)
                        refine lv_iload hx hb dL_sound_259 (lv_at hl 5 rfl) ?_
                        have J286_55 : ∀  (w : va_W) (hO : OB y h T z Hs s0 s1 w) (H : Heap) (locs : List Loc) (hP : va_P G vwCl w H) (hD : va_D A w) (hS : va_S A s.heap H locs) (ls : Array Slot) (hl : lv_has ls 12 [(7, .int ((sgO z t) + (if (nI t) ≤ 0 then (0 : Int32) else (if (qSwing (nI t) 0 z) ≤ (s_X11_middle_r 0 z) then (0 : Int32) else (1 : Int32))))), (6, .int ((sgU z t) + (if (nI t) ≤ 0 then (0 : Int32) else (if (s_X11_middle_r 0 z) ≤ (qSwing (nI t) 0 z) then (0 : Int32) else (1 : Int32))))), (2, .int ((sgG z t) + (if (if (nI t) = 0 then (1 : Int32) else (if (100 * (sizeF ((qSwing (nI t) 0 z) - (s_X11_middle_r 0 z)))) ≤ ((qAbout 7 z) * (s_X11_middle_r 0 z)) then (if (100 * (sizeF ((spanF (nI t) z) - (s_X11_middle_r 1 z)))) ≤ ((qAbout 7 z) * (s_X11_middle_r 1 z)) then (0 : Int32) else (3 : Int32)) else (2 : Int32))) = 0 then (1 : Int32) else (0 : Int32)))), (9, .int (nI t)), (5, .int (s_X11_middle_r 1 z)), (4, .int (s_X11_middle_r 0 z)), (3, .int (qAbout 7 z)), (1, .int (qAbout 16 z)), (0, .ref h)]), W p l e (headSpec wsL_sound rmL_sound).room s m ([.ref h] : List Value).toArray below meth c H locs (7 + t * 11 + 8) (42 + t * 66 + 48) QQ (F0 m 286 ls []) := by
                          intro w hO H locs hP hD hS ls hl
                          refine lv_aload_n hx hb dL_sound_286 rfl (lv_at hl 8 rfl) ?_
                          refine lv_iload hx hb dL_sound_287 (lv_at hl 3 rfl) ?_
                          refine lv_iconst (v := 4) hx hb dL_sound_289 (by decide) ?_
                          refine cl_O (Φ := (fun w9 => OB y h T z Hs s0 s1 w9)) (vx_runSX (As := [.ref h, .int (nI t), .int 4]) (rest := []) ⟨hx, hb, hml, hown, hts⟩ (w_swing l G y h (nI t) 4 w T z Hs s0 s1 H.size hO hz  hfl) (vx_cwSW 3 hts gL_sound_L_trySwing rfl rfl rfl (by decide +kernel) ⟨Nat.le_of_ble_eq_true rfl, Nat.le_of_ble_eq_true rfl⟩) (PHZ_S hP hK hN hD hTY hS (F_0 hD hS hA)) rfl rfl hl.1 rfl (lv_room (Nat.le_of_ble_eq_true rfl)) dL_sound_290 ⟨(show 7 + t * 11 + 8 + 1 ≤ 245 by omega), (show 42 + t * 66 + 48 + 6 ≤ 1470 by omega)⟩) hD hS hA (fun w H locs hO hP hD hS => ?_)
                          refine lv_aload_n hx hb dL_sound_293 rfl (lv_at hl 8 rfl) ?_
                          refine lv_bipush (v := 13) hx hb dL_sound_294 (by decide) ?_
                          refine cl_O (Φ := (fun w9 => OB y h T z Hs s0 s1 w9)) (vx_runSX (As := [.ref h, .int 13]) (rest := [.int (qSwing (nI t) 4 z)]) ⟨hx, hb, hml, hown, hts⟩ (w_about l G y h 13 w T z Hs s0 s1 H.size hO hz  hfl) (vx_cwSW 2 hts gL_sound_L_tryAbout rfl rfl rfl (by decide +kernel) ⟨Nat.le_of_ble_eq_true rfl, Nat.le_of_ble_eq_true rfl⟩) (PHZ_S hP hK hN hD hTY hS (F_0 hD hS hA)) rfl rfl hl.1 rfl (lv_room (Nat.le_of_ble_eq_true rfl)) dL_sound_296 ⟨(show 7 + t * 11 + 9 + 1 ≤ 245 by omega), (show 42 + t * 66 + 54 + 6 ≤ 1470 by omega)⟩) hD hS hA (fun w H locs hO hP hD hS => ?_)
                          refine lv_icmp_gt (tgt := 306) hx hb dL_sound_299 (by decide) (fun c9 => absurd c9 (f_299 t ht hlt)) (fun _ => ?_)
                          refine lv_iconst (v := 1) hx hb dL_sound_302 (by decide) ?_
                          refine lv_goto (tgt := 307) hx hb dL_sound_303 (by decide) ?_
                          refine lv_istore (lv' := [(8, .int 1), (7, .int ((sgO z t) + (if (nI t) ≤ 0 then (0 : Int32) else (if (qSwing (nI t) 0 z) ≤ (s_X11_middle_r 0 z) then (0 : Int32) else (1 : Int32))))), (6, .int ((sgU z t) + (if (nI t) ≤ 0 then (0 : Int32) else (if (s_X11_middle_r 0 z) ≤ (qSwing (nI t) 0 z) then (0 : Int32) else (1 : Int32))))), (2, .int ((sgG z t) + (if (if (nI t) = 0 then (1 : Int32) else (if (100 * (sizeF ((qSwing (nI t) 0 z) - (s_X11_middle_r 0 z)))) ≤ ((qAbout 7 z) * (s_X11_middle_r 0 z)) then (if (100 * (sizeF ((spanF (nI t) z) - (s_X11_middle_r 1 z)))) ≤ ((qAbout 7 z) * (s_X11_middle_r 1 z)) then (0 : Int32) else (3 : Int32)) else (2 : Int32))) = 0 then (1 : Int32) else (0 : Int32)))), (9, .int (nI t)), (5, .int (s_X11_middle_r 1 z)), (4, .int (s_X11_middle_r 0 z)), (3, .int (qAbout 7 z)), (1, .int (qAbout 16 z)), (0, .ref h)]) hx hb dL_sound_307 hl (by decide) rfl (fun ls hl => ?_)
                          refine lv_iinc (v := ((nI t) + 1)) (lv' := [(9, .int ((nI t) + 1)), (8, .int 1), (7, .int ((sgO z t) + (if (nI t) ≤ 0 then (0 : Int32) else (if (qSwing (nI t) 0 z) ≤ (s_X11_middle_r 0 z) then (0 : Int32) else (1 : Int32))))), (6, .int ((sgU z t) + (if (nI t) ≤ 0 then (0 : Int32) else (if (s_X11_middle_r 0 z) ≤ (qSwing (nI t) 0 z) then (0 : Int32) else (1 : Int32))))), (2, .int ((sgG z t) + (if (if (nI t) = 0 then (1 : Int32) else (if (100 * (sizeF ((qSwing (nI t) 0 z) - (s_X11_middle_r 0 z)))) ≤ ((qAbout 7 z) * (s_X11_middle_r 0 z)) then (if (100 * (sizeF ((spanF (nI t) z) - (s_X11_middle_r 1 z)))) ≤ ((qAbout 7 z) * (s_X11_middle_r 1 z)) then (0 : Int32) else (3 : Int32)) else (2 : Int32))) = 0 then (1 : Int32) else (0 : Int32)))), (5, .int (s_X11_middle_r 1 z)), (4, .int (s_X11_middle_r 0 z)), (3, .int (qAbout 7 z)), (1, .int (qAbout 16 z)), (0, .ref h)]) hx hb dL_sound_309 hl (k := 4) rfl (by first | rfl | decide) (by decide) rfl (fun ls hl => ?_)
                          refine lv_goto (tgt := 96) hx hb dL_sound_312 (by decide) ?_
                          rw [show (((sgG z t) + (if (if (nI t) = 0 then (1 : Int32) else (if (100 * (sizeF ((qSwing (nI t) 0 z) - (s_X11_middle_r 0 z)))) ≤ ((qAbout 7 z) * (s_X11_middle_r 0 z)) then (if (100 * (sizeF ((spanF (nI t) z) - (s_X11_middle_r 1 z)))) ≤ ((qAbout 7 z) * (s_X11_middle_r 1 z)) then (0 : Int32) else (3 : Int32)) else (2 : Int32))) = 0 then (1 : Int32) else (0 : Int32))) : Int32) = sgG z (t + 1) from (e_2 t ht hlt)] at hl
                          rw [show (((sgU z t) + (if (nI t) ≤ 0 then (0 : Int32) else (if (s_X11_middle_r 0 z) ≤ (qSwing (nI t) 0 z) then (0 : Int32) else (1 : Int32)))) : Int32) = sgU z (t + 1) from (e_6 t ht hlt)] at hl
                          rw [show (((sgO z t) + (if (nI t) ≤ 0 then (0 : Int32) else (if (qSwing (nI t) 0 z) ≤ (s_X11_middle_r 0 z) then (0 : Int32) else (1 : Int32)))) : Int32) = sgO z (t + 1) from (e_7 t ht hlt)] at hl
                          rw [show (nI t + 1 : Int32) = nI (t + 1) from nI_add t 1] at hl
                          refine W.widen (k := 7 + (t + 1) * 11) (n := 42 + (t + 1) * 66) (by omega) (by omega) ?_
                          exact ih_17 (t + 1) (by omega) (by omega) w hO H locs hP hD hS ls (lv_sub hl [0, 1, 2, 3, 5, 6, 7, 4, 8, 9] rfl)
                        refine lv_if_eq (tgt := 286) hx hb dL_sound_261 (by decide) (fun c_54 => ?_) (fun c_54 => ?_)
                        · refine W.widen (k := 7 + t * 11 + 8) (n := 42 + t * 66 + 48) (by omega) (by omega) ?_
                          exact J286_55 w hO H locs hP hD hS ls (lv_sub hl [0, 1, 2, 5, 6, 7, 8, 9, 10] rfl)
                        · refine lv_aload_n hx hb dL_sound_264 rfl (lv_at hl 10 rfl) ?_
                          refine lv_iload hx hb dL_sound_265 (lv_at hl 5 rfl) ?_
                          refine lv_iconst (v := 4) hx hb dL_sound_267 (by decide) ?_
                          refine cl_O (Φ := (fun w9 => OB y h T z Hs s0 s1 w9)) (vx_runSX (As := [.ref h, .int (nI t), .int 4]) (rest := []) ⟨hx, hb, hml, hown, hts⟩ (w_swing l G y h (nI t) 4 w T z Hs s0 s1 H.size hO hz  hfl) (vx_cwSW 3 hts gL_sound_L_trySwing rfl rfl rfl (by decide +kernel) ⟨Nat.le_of_ble_eq_true rfl, Nat.le_of_ble_eq_true rfl⟩) (PHZ_S hP hK hN hD hTY hS (F_0 hD hS hA)) rfl rfl hl.1 rfl (lv_room (Nat.le_of_ble_eq_true rfl)) dL_sound_268 ⟨(show 7 + t * 11 + 6 + 1 ≤ 245 by omega), (show 42 + t * 66 + 36 + 6 ≤ 1470 by omega)⟩) hD hS hA (fun w H locs hO hP hD hS => ?_)
                          refine lv_aload_n hx hb dL_sound_271 rfl (lv_at hl 10 rfl) ?_
                          refine lv_iload hx hb dL_sound_272 (lv_at hl 5 rfl) ?_
                          refine lv_iconst (v := 1) hx hb dL_sound_274 (by decide) ?_
                          refine lv_isub hx hb dL_sound_275 ?_
                          refine lv_iconst (v := 4) hx hb dL_sound_276 (by decide) ?_
                          refine cl_O (Φ := (fun w9 => OB y h T z Hs s0 s1 w9)) (vx_runSX (As := [.ref h, .int ((nI t) - 1), .int 4]) (rest := [.int (qSwing (nI t) 4 z)]) ⟨hx, hb, hml, hown, hts⟩ (w_swing l G y h ((nI t) - 1) 4 w T z Hs s0 s1 H.size hO hz  hfl) (vx_cwSW 3 hts gL_sound_L_trySwing rfl rfl rfl (by decide +kernel) ⟨Nat.le_of_ble_eq_true rfl, Nat.le_of_ble_eq_true rfl⟩) (PHZ_S hP hK hN hD hTY hS (F_0 hD hS hA)) rfl rfl hl.1 rfl (lv_room (Nat.le_of_ble_eq_true rfl)) dL_sound_277 ⟨(show 7 + t * 11 + 7 + 1 ≤ 245 by omega), (show 42 + t * 66 + 42 + 6 ≤ 1470 by omega)⟩) hD hS hA (fun w H locs hO hP hD hS => ?_)
                          refine lv_iload hx hb dL_sound_280 (lv_at hl 4 rfl) ?_
                          refine lv_iadd hx hb dL_sound_282 ?_
                          refine lv_icmp_lt (tgt := 306) hx hb dL_sound_283 (by decide) (fun c9 => absurd c9 (f_283 t ht hlt c_54)) (fun _ => ?_)
                          exact J286_55 w hO H locs hP hD hS ls (lv_sub hl [0, 1, 2, 5, 6, 7, 8, 9, 10] rfl)
                      refine lv_if_le (tgt := 229) hx hb dL_sound_215 (by decide) (fun c_48 => ?_) (fun c_48 => ?_)
                      · refine lv_iconst (v := 0) hx hb dL_sound_229 (by decide) ?_
                        exact J230_50 _ ((if_pos c_48).symm) w hO H locs hP hD hS ls (lv_sub hl [0, 1, 2, 3, 4, 6, 7, 8, 9, 10] rfl)
                      · refine lv_iload hx hb dL_sound_218 (lv_at hl 3 rfl) ?_
                        refine lv_iload hx hb dL_sound_220 (lv_at hl 7 rfl) ?_
                        refine lv_icmp_le (tgt := 229) hx hb dL_sound_222 (by decide) (fun c_58 => ?_) (fun c_58 => ?_)
                        · refine lv_iconst (v := 0) hx hb dL_sound_229 (by decide) ?_
                          exact J230_50 _ (((if_neg c_48).trans (if_pos c_58)).symm) w hO H locs hP hD hS ls (lv_sub hl [0, 1, 2, 3, 4, 6, 7, 8, 9, 10] rfl)
                        · refine lv_iconst (v := 1) hx hb dL_sound_225 (by decide) ?_
                          refine lv_goto (tgt := 230) hx hb dL_sound_226 (by decide) ?_
                          exact J230_50 _ (((if_neg c_48).trans (if_neg c_58)).symm) w hO H locs hP hD hS ls (lv_sub hl [0, 1, 2, 3, 4, 6, 7, 8, 9, 10] rfl)
                    refine lv_if_le (tgt := 207) hx hb dL_sound_193 (by decide) (fun c_45 => ?_) (fun c_45 => ?_)
                    · refine lv_iconst (v := 0) hx hb dL_sound_207 (by decide) ?_
                      exact J208_47 _ ((if_pos c_45).symm) w hO H locs hP hD hS ls (lv_sub hl [0, 1, 2, 3, 4, 6, 7, 8, 9, 10] rfl)
                    · refine lv_iload hx hb dL_sound_196 (lv_at hl 2 rfl) ?_
                      refine lv_iload hx hb dL_sound_198 (lv_at hl 7 rfl) ?_
                      refine lv_icmp_ge (tgt := 207) hx hb dL_sound_200 (by decide) (fun c_59 => ?_) (fun c_59 => ?_)
                      · refine lv_iconst (v := 0) hx hb dL_sound_207 (by decide) ?_
                        exact J208_47 _ (((if_neg c_45).trans (if_pos c_59)).symm) w hO H locs hP hD hS ls (lv_sub hl [0, 1, 2, 3, 4, 6, 7, 8, 9, 10] rfl)
                      · refine lv_iconst (v := 1) hx hb dL_sound_203 (by decide) ?_
                        refine lv_goto (tgt := 208) hx hb dL_sound_204 (by decide) ?_
                        exact J208_47 _ (((if_neg c_45).trans (if_neg c_59)).symm) w hO H locs hP hD hS ls (lv_sub hl [0, 1, 2, 3, 4, 6, 7, 8, 9, 10] rfl)
                  refine lv_if_ne (tgt := 186) hx hb dL_sound_179 (by decide) (fun c_42 => ?_) (fun c_42 => ?_)
                  · refine lv_iconst (v := 0) hx hb dL_sound_186 (by decide) ?_
                    exact J187_44 _ ((if_neg c_42).symm) w hO H locs hP hD hS ls (lv_sub hl [0, 1, 2, 3, 4, 5, 6, 7, 9, 10] rfl)
                  · refine lv_iconst (v := 1) hx hb dL_sound_182 (by decide) ?_
                    refine lv_goto (tgt := 187) hx hb dL_sound_183 (by decide) ?_
                    exact J187_44 _ ((if_pos c_42).symm) w hO H locs hP hD hS ls (lv_sub hl [0, 1, 2, 3, 4, 5, 6, 7, 9, 10] rfl)
                refine lv_if_ne (tgt := 125) hx hb dL_sound_118 (by decide) (fun c_39 => ?_) (fun c_39 => ?_)
                · refine lv_bipush (v := 100) hx hb dL_sound_125 (by decide) ?_
                  refine lv_iload hx hb dL_sound_127 (lv_at hl 0 rfl) ?_
                  refine lv_iload hx hb dL_sound_129 (lv_at hl 6 rfl) ?_
                  refine lv_isub hx hb dL_sound_131 ?_
                  refine cl_Ri (va_runS (As := [.int ((qSwing (nI t) 0 z) - (s_X11_middle_r 0 z))]) (rest := [.int 100]) ⟨hx, hb, hml, hown, hts⟩ (c_L_size l G y ((qSwing (nI t) 0 z) - (s_X11_middle_r 0 z))) (va_cwS 1 hts gL_sound_L_size rfl rfl rfl (by decide +kernel) ⟨Nat.le_of_ble_eq_true rfl, Nat.le_of_ble_eq_true rfl⟩) (PR_S pnil hK hN) rfl rfl hl.1 rfl (lv_room (Nat.le_of_ble_eq_true rfl)) dL_sound_132 ⟨(show 7 + t * 11 + 1 + 0 ≤ 245 by omega), (show 42 + t * 66 + 6 + 0 ≤ 1470 by omega)⟩) ?_
                  refine lv_imul hx hb dL_sound_135 ?_
                  refine lv_iload_n hx hb dL_sound_136 rfl (lv_at hl 7 rfl) ?_
                  refine lv_iload hx hb dL_sound_137 (lv_at hl 6 rfl) ?_
                  refine lv_imul hx hb dL_sound_139 ?_
                  refine lv_icmp_le (tgt := 147) hx hb dL_sound_140 (by decide) (fun c_60 => ?_) (fun c_60 => ?_)
                  · refine lv_bipush (v := 100) hx hb dL_sound_147 (by decide) ?_
                    refine lv_aload_n hx hb dL_sound_149 rfl (lv_at hl 10 rfl) ?_
                    refine lv_iload hx hb dL_sound_150 (lv_at hl 1 rfl) ?_
                    refine cl_OM (Φ := (fun w9 => OB y h T z Hs s0 s1 w9)) (va_runS (As := [.ref h, .int (nI t)]) (rest := [.int 100]) ⟨hx, hb, hml, hown, hts⟩ (c_L_span l G y h (nI t) w T z Hs s0 s1 H.size hO hz (m_152 t ht hlt c_39 c_60) hfl) (va_cwS 2 hts gL_sound_L_span rfl rfl rfl (by decide +kernel) ⟨Nat.le_of_ble_eq_true rfl, Nat.le_of_ble_eq_true rfl⟩) (PHZ_S hP hK hN hD hTY hS (F_0 hD hS hA)) rfl rfl hl.1 rfl (lv_room (Nat.le_of_ble_eq_true rfl)) dL_sound_152 ⟨(show 7 + t * 11 + 1 + 2 ≤ 245 by omega), (show 42 + t * 66 + 6 + 12 ≤ 1470 by omega)⟩) hD hS hA (fun w H locs hO hP hD hS => ?_)
                    refine lv_iload hx hb dL_sound_155 (lv_at hl 5 rfl) ?_
                    refine lv_isub hx hb dL_sound_157 ?_
                    refine cl_Ri (va_runS (As := [.int ((spanF (nI t) z) - (s_X11_middle_r 1 z))]) (rest := [.int 100]) ⟨hx, hb, hml, hown, hts⟩ (c_L_size l G y ((spanF (nI t) z) - (s_X11_middle_r 1 z))) (va_cwS 1 hts gL_sound_L_size rfl rfl rfl (by decide +kernel) ⟨Nat.le_of_ble_eq_true rfl, Nat.le_of_ble_eq_true rfl⟩) (PR_S pnil hK hN) rfl rfl hl.1 rfl (lv_room (Nat.le_of_ble_eq_true rfl)) dL_sound_158 ⟨(show 7 + t * 11 + 3 + 0 ≤ 245 by omega), (show 42 + t * 66 + 18 + 0 ≤ 1470 by omega)⟩) ?_
                    refine lv_imul hx hb dL_sound_161 ?_
                    refine lv_iload_n hx hb dL_sound_162 rfl (lv_at hl 7 rfl) ?_
                    refine lv_iload hx hb dL_sound_163 (lv_at hl 5 rfl) ?_
                    refine lv_imul hx hb dL_sound_165 ?_
                    refine lv_icmp_le (tgt := 173) hx hb dL_sound_166 (by decide) (fun c_61 => ?_) (fun c_61 => ?_)
                    · refine lv_iconst (v := 0) hx hb dL_sound_173 (by decide) ?_
                      exact J174_41 _ (((if_neg c_39).trans ((if_pos c_60).trans (if_pos c_61))).symm) w hO H locs hP hD hS ls (lv_sub hl [0, 1, 3, 4, 5, 6, 7, 8, 9, 10] rfl)
                    · refine lv_iconst (v := 3) hx hb dL_sound_169 (by decide) ?_
                      refine lv_goto (tgt := 174) hx hb dL_sound_170 (by decide) ?_
                      exact J174_41 _ (((if_neg c_39).trans ((if_pos c_60).trans (if_neg c_61))).symm) w hO H locs hP hD hS ls (lv_sub hl [0, 1, 3, 4, 5, 6, 7, 8, 9, 10] rfl)
                  · refine lv_iconst (v := 2) hx hb dL_sound_143 (by decide) ?_
                    refine lv_goto (tgt := 174) hx hb dL_sound_144 (by decide) ?_
                    refine W.widen (k := 7 + t * 11 + 3) (n := 42 + t * 66 + 18) (by omega) (by omega) ?_
                    exact J174_41 _ (((if_neg c_39).trans (if_neg c_60)).symm) w hO H locs hP hD hS ls (lv_sub hl [0, 1, 3, 4, 5, 6, 7, 8, 9, 10] rfl)
                · refine lv_iconst (v := 1) hx hb dL_sound_121 (by decide) ?_
                  refine lv_goto (tgt := 174) hx hb dL_sound_122 (by decide) ?_
                  refine W.widen (k := 7 + t * 11 + 3) (n := 42 + t * 66 + 18) (by omega) (by omega) ?_
                  exact J174_41 _ ((if_pos c_39).symm) w hO H locs hP hD hS ls (lv_sub hl [0, 1, 3, 4, 5, 6, 7, 8, 9, 10] rfl)
          refine W.widen (k := 7 + 0 * 11) (n := 42 + 0 * 66) (by omega) (by omega) ?_
          exact LOOP96_15 ((tn (z 4 0)) + 1 - 0 + 1) 0 (by omega) (Nat.lt_succ_self _) w hO H locs hP hD hS ls (lv_sub hl [0, 1, 2, 3, 4, 5, 6, 7, 8, 9] rfl)
        refine lv_icmp_ne (tgt := 82) hx hb dL_sound_75 (by decide) (fun c_11 => ?_) (fun c_11 => ?_)
        · refine lv_iconst (v := 0) hx hb dL_sound_82 (by decide) ?_
          exact J83_13 _ ((if_neg c_11).symm) w hO H locs hP hD hS ls (lv_sub hl [0, 1, 2, 3, 4, 5, 6, 7] rfl)
        · refine lv_iconst (v := 1) hx hb dL_sound_78 (by decide) ?_
          refine lv_goto (tgt := 83) hx hb dL_sound_79 (by decide) ?_
          exact J83_13 _ ((if_pos c_11).symm) w hO H locs hP hD hS ls (lv_sub hl [0, 1, 2, 3, 4, 5, 6, 7] rfl)
      refine lv_icmp_ge (tgt := 70) hx hb dL_sound_63 (by decide) (fun c_8 => ?_) (fun c_8 => ?_)
      · refine lv_iconst (v := 0) hx hb dL_sound_70 (by decide) ?_
        exact J71_10 _ ((if_pos c_8).symm) w hO H locs hP hD hS ls (lv_sub hl [0, 1, 2, 3, 4, 5, 6, 7] rfl)
      · refine lv_iconst (v := 1) hx hb dL_sound_66 (by decide) ?_
        refine lv_goto (tgt := 71) hx hb dL_sound_67 (by decide) ?_
        exact J71_10 _ ((if_neg c_8).symm) w hO H locs hP hD hS ls (lv_sub hl [0, 1, 2, 3, 4, 5, 6, 7] rfl)
    refine lv_icmp_ne (tgt := 57) hx hb dL_sound_50 (by decide) (fun c_4 => ?_) (fun c_4 => ?_)
    · refine lv_iconst (v := 0) hx hb dL_sound_57 (by decide) ?_
      exact J58_6 _ ((if_neg c_4).symm) w hO H locs hP hD hS ls (lv_sub hl [0, 1, 2, 3, 4, 5, 6, 7] rfl)
    · refine lv_iconst (v := 1) hx hb dL_sound_53 (by decide) ?_
      refine lv_goto (tgt := 58) hx hb dL_sound_54 (by decide) ?_
      exact J58_6 _ ((if_pos c_4).symm) w hO H locs hP hD hS ls (lv_sub hl [0, 1, 2, 3, 4, 5, 6, 7] rfl)
  refine lv_icmp_ge (tgt := 45) hx hb dL_sound_38 (by decide) (fun c_1 => ?_) (fun c_1 => ?_)
  · refine lv_iconst (v := 0) hx hb dL_sound_45 (by decide) ?_
    exact J46_3 _ ((if_pos c_1).symm) w hO H locs hP hD hS ls (lv_sub hl [0, 1, 2, 3, 4, 5, 6, 7] rfl)
  · refine lv_iconst (v := 1) hx hb dL_sound_41 (by decide) ?_
    refine lv_goto (tgt := 46) hx hb dL_sound_42 (by decide) ?_
    exact J46_3 _ ((if_neg c_1).symm) w hO H locs hP hD hS ls (lv_sub hl [0, 1, 2, 3, 4, 5, 6, 7] rfl)
abbrev rmL_steps : Room := ({ frames := 8, cells := 125, slots := 750, locals := 176 } : Room)
set_option maxHeartbeats 2000000 in
set_option maxRecDepth 20000 in
theorem c_L_steps (l : Launch) (G : va_G) (y : Nat → ClassId) (h : Nat)  (w : va_W) (T : List Int32) (z : Zs) (Hs : List Zs) (s0 s1 : Option Zs) (sz : Nat) (hO : OB y h T z Hs s0 s1 w) (hz : TS z) (hF : FX_steps z) (hfl : l.stackTraces = false) : Met l yL_steps wsL_steps rmL_steps (PHZ G y [.ref h] w sz) (QO G 1 (fun w9 => ∃ z9 H9, OB y h T z9 H9 s0 s1 w9 ∧ TS z9) (va_A w sz)) 125 750 (va_A w sz) := by
  refine Met.ofW (cc := cL_steps) (maxL := 7) (ret := (some .boolean)) (by decide) rfl ?_
  intro p e s m args below meth c s₁ B hml hv
  obtain ⟨rfl, hsz, hP, ⟨hK, hN⟩, hD0, hTY⟩ := hv
  have hx := B.exec
  have hb := B.bytes
  have hr := B.returns
  have hts := atoms_spec (ws := wsL_steps) B.pre
  have hown : s.vm.findClass RL = some m.cls := findClass_of_methodNamed B.named
  subst hsz
  have hD := hD0.self (sz := s.heap.size)
  generalize hAe : va_A w s.heap.size = A at hD hTY ⊢
  have hA : ∀ q : Nat, s.heap.size ≤ q → A q := fun q h => by rw [← hAe]; exact Or.inr h
  have hS : va_S A s.heap s.heap [] := va_S.rf
  obtain ⟨ts_0, tz_0, k_31, t_31, n_68, f_117⟩ := hF
  have hl := lv_entry ([.ref h]) (n := 7) (Nat.le_of_ble_eq_true rfl)
  rw [lg_entry_eq]
  generalize (lg_sl ([.ref h]) ++ List.replicate (7 - (lg_sl ([.ref h])).length) Slot.unset).toArray = ls at hl ⊢
  have hl : lv_has ls 7 [(0, .ref h)] := hl
  obtain ⟨QQ, hQQ⟩ : ∃ zq9, zq9 = MQ below (QO G 1 (fun w9 => ∃ z9 H9, OB y h T z9 H9 s0 s1 w9 ∧ TS z9) A) ([.ref h] : List Value).toArray s 125 750 A := ⟨_, rfl⟩
  rw [← hQQ]
  refine lv_iconst (v := 1) hx hb dL_steps_0 (by decide) ?_
  refine lv_istore_n (lv' := [(1, .int 1), (0, .ref h)]) hx hb dL_steps_1 rfl hl (by decide) rfl (fun ls hl => ?_)
  refine lv_iconst (v := 0) hx hb dL_steps_2 (by decide) ?_
  refine lv_istore_n (lv' := [(2, .int 0), (1, .int 1), (0, .ref h)]) hx hb dL_steps_3 rfl hl (by decide) rfl (fun ls hl => ?_)
  have LOOP4_1 : ∀ (n_2 : Nat) (t : Nat) (H9 : List Zs) (ht : t ≤ 12) (hn_4 : 13 - t < n_2) (w : va_W) (hO : OB y h T (tzF z t) H9 s0 s1 w) (H : Heap) (locs : List Loc) (hP : va_P G vwCl w H) (hD : va_D A w) (hS : va_S A s.heap H locs) (ls : Array Slot) (hl : lv_has ls 7 [(2, .int (nI t)), (1, .int 1), (0, .ref h)]), W p l e (headSpec wsL_steps rmL_steps).room s m ([.ref h] : List Value).toArray below meth c H locs (0 + t * 9) (0 + t * 54) QQ (F0 m 4 ls []) := by
    intro n_2
    induction n_2 with
    | zero => intro t H9 ht hn_4 w hO H locs hP hD hS ls hl; exact absurd hn_4 (Nat.not_lt_zero _)
    | succ n_2 ih_3 =>
      intro t H9 ht hn_4 w hO H locs hP hD hS ls hl
      have hz9 : TS (tzF z t) := ts_0 t
      refine lv_iload_n hx hb dL_steps_4 rfl (lv_at hl 0 rfl) ?_
      refine lv_bipush (v := 12) hx hb dL_steps_5 (by decide) ?_
      refine lv_icmp_ge (tgt := 132) hx hb dL_steps_7 (by decide) (fun c_5 => ?_) (fun c_5 => ?_)
      · refine W.widen (k := 120) (n := 720) (by omega) (by omega) ?_
        refine lv_iload_n hx hb dL_steps_132 rfl (lv_at hl 1 rfl) ?_
        rw [hQQ]
        refine W.widen (k := 125) (n := 750) (by omega) (by omega) ?_
        exact W.zret hx hb hr (nz_bool (Or.inr rfl)) (end_O (⟨_, _, hO, hz9⟩) hP hD hS rfl) hS.2.2 dL_steps_133
      · have hlt : t < 12 := lt_nI (n := 12) (by omega) (by omega) c_5
        refine lv_iload_n hx hb dL_steps_10 rfl (lv_at hl 1 rfl) ?_
        refine lv_if_eq (tgt := 132) hx hb dL_steps_11 (by decide) (fun c_6 => (by first | exact absurd c_6 (by decide : ¬ ((1 : Int32) = 0)) | exact absurd (by decide : ¬ ((1 : Int32) = 0)) c_6)) (fun _ => ?_)
        refine lv_aload_n hx hb dL_steps_14 rfl (lv_at hl 2 rfl) ?_
        refine lv_iconst (v := 2) hx hb dL_steps_15 (by decide) ?_
        refine cl_O (Φ := (fun w9 => OB y h T (tzF z t) H9 s0 s1 w9)) (vx_runSX (As := [.ref h, .int 2]) (rest := []) ⟨hx, hb, hml, hown, hts⟩ (w_about l G y h 2 w T (tzF z t) H9 s0 s1 H.size hO hz9  hfl) (vx_cwSW 2 hts gL_steps_L_tryAbout rfl rfl rfl (by decide +kernel) ⟨Nat.le_of_ble_eq_true rfl, Nat.le_of_ble_eq_true rfl⟩) (PHZ_S hP hK hN hD hTY hS (F_0 hD hS hA)) rfl rfl hl.1 rfl (lv_room (Nat.le_of_ble_eq_true rfl)) dL_steps_16 ⟨(show 0 + t * 9 + 1 ≤ 125 by omega), (show 0 + t * 54 + 6 ≤ 750 by omega)⟩) hD hS hA (fun w H locs hO hP hD hS => ?_)
        refine lv_if_ne (tgt := 132) hx hb dL_steps_19 (by decide) (fun c_7 => ?_) (fun c_7 => ?_)
        · refine lv_iload_n hx hb dL_steps_132 rfl (lv_at hl 1 rfl) ?_
          rw [hQQ]
          refine W.widen (k := 125) (n := 750) (by omega) (by omega) ?_
          exact W.zret hx hb hr (nz_bool (Or.inr rfl)) (end_O (⟨_, _, hO, hz9⟩) hP hD hS rfl) hS.2.2 dL_steps_133
        · refine lv_aload_n hx hb dL_steps_22 rfl (lv_at hl 2 rfl) ?_
          refine lv_bipush (v := 12) hx hb dL_steps_23 (by decide) ?_
          refine cl_O (Φ := (fun w9 => OB y h T (tzF z t) H9 s0 s1 w9)) (vx_runSX (As := [.ref h, .int 12]) (rest := []) ⟨hx, hb, hml, hown, hts⟩ (w_about l G y h 12 w T (tzF z t) H9 s0 s1 H.size hO hz9  hfl) (vx_cwSW 2 hts gL_steps_L_tryAbout rfl rfl rfl (by decide +kernel) ⟨Nat.le_of_ble_eq_true rfl, Nat.le_of_ble_eq_true rfl⟩) (PHZ_S hP hK hN hD hTY hS (F_0 hD hS hA)) rfl rfl hl.1 rfl (lv_room (Nat.le_of_ble_eq_true rfl)) dL_steps_25 ⟨(show 0 + t * 9 + 1 + 1 ≤ 125 by omega), (show 0 + t * 54 + 6 + 6 ≤ 750 by omega)⟩) hD hS hA (fun w H locs hO hP hD hS => ?_)
          refine lv_istore_n (lv' := [(3, .int (qAbout 12 (tzF z t))), (2, .int (nI t)), (1, .int 1), (0, .ref h)]) hx hb dL_steps_28 rfl hl (by decide) rfl (fun ls hl => ?_)
          refine lv_aload_n hx hb dL_steps_29 rfl (lv_at hl 3 rfl) ?_
          refine lv_iconst (v := 1) hx hb dL_steps_30 (by decide) ?_
          refine cl_O (Φ := (fun w9 => (s_X11_tick_k 1 = 0 ∧ OB y h T (s_X11_tick_z 1 (tzF z t)) (hpu (tzF z t) H9) s0 s1 w9) ∨ (¬ s_X11_tick_k 1 = 0 ∧ OB y h T (tzF z t) H9 s0 s1 w9))) (vx_runSX (As := [.ref h, .int 1]) (rest := []) ⟨hx, hb, hml, hown, hts⟩ (w_tick l G y h 1 w T (tzF z t) H9 s0 s1 H.size hO hz9  hfl) (vx_cwSW 2 hts gL_steps_L_tryTick rfl rfl rfl (by decide +kernel) ⟨Nat.le_of_ble_eq_true rfl, Nat.le_of_ble_eq_true rfl⟩) (PHZ_S hP hK hN hD hTY hS (F_0 hD hS hA)) rfl rfl hl.1 rfl (lv_room (Nat.le_of_ble_eq_true rfl)) dL_steps_31 ⟨(show 0 + t * 9 + 2 + 1 ≤ 125 by omega), (show 0 + t * 54 + 12 + 6 ≤ 750 by omega)⟩) hD hS hA (fun w H locs hO hP hD hS => ?_)
          have hO : OB y h T (s_X11_tick_z 1 (tzF z t)) (hpu (tzF z t) H9) s0 s1 w := oy (k_31 t H9 ht hlt c_7) hO
          have hz : TS (s_X11_tick_z 1 (tzF z t)) := (t_31 t H9 ht hlt c_7)
          refine lv_istore (lv' := [(4, .int (qTick 1 (tzF z t))), (3, .int (qAbout 12 (tzF z t))), (2, .int (nI t)), (1, .int 1), (0, .ref h)]) hx hb dL_steps_34 hl (by decide) rfl (fun ls hl => ?_)
          refine lv_aload_n hx hb dL_steps_36 rfl (lv_at hl 4 rfl) ?_
          refine lv_iconst (v := 3) hx hb dL_steps_37 (by decide) ?_
          refine cl_O (Φ := (fun w9 => OB y h T (s_X11_tick_z 1 (tzF z t)) (hpu (tzF z t) H9) s0 s1 w9)) (vx_runSX (As := [.ref h, .int 3]) (rest := []) ⟨hx, hb, hml, hown, hts⟩ (w_about l G y h 3 w T (s_X11_tick_z 1 (tzF z t)) (hpu (tzF z t) H9) s0 s1 H.size hO hz  hfl) (vx_cwSW 2 hts gL_steps_L_tryAbout rfl rfl rfl (by decide +kernel) ⟨Nat.le_of_ble_eq_true rfl, Nat.le_of_ble_eq_true rfl⟩) (PHZ_S hP hK hN hD hTY hS (F_0 hD hS hA)) rfl rfl hl.1 rfl (lv_room (Nat.le_of_ble_eq_true rfl)) dL_steps_38 ⟨(show 0 + t * 9 + 3 + 1 ≤ 125 by omega), (show 0 + t * 54 + 18 + 6 ≤ 750 by omega)⟩) hD hS hA (fun w H locs hO hP hD hS => ?_)
          refine lv_aload_n hx hb dL_steps_41 rfl (lv_at hl 4 rfl) ?_
          refine lv_iconst (v := 0) hx hb dL_steps_42 (by decide) ?_
          refine cl_O (Φ := (fun w9 => OB y h T (s_X11_tick_z 1 (tzF z t)) (hpu (tzF z t) H9) s0 s1 w9)) (vx_runSX (As := [.ref h, .int 0]) (rest := [.int (qAbout 3 (s_X11_tick_z 1 (tzF z t)))]) ⟨hx, hb, hml, hown, hts⟩ (w_about l G y h 0 w T (s_X11_tick_z 1 (tzF z t)) (hpu (tzF z t) H9) s0 s1 H.size hO hz  hfl) (vx_cwSW 2 hts gL_steps_L_tryAbout rfl rfl rfl (by decide +kernel) ⟨Nat.le_of_ble_eq_true rfl, Nat.le_of_ble_eq_true rfl⟩) (PHZ_S hP hK hN hD hTY hS (F_0 hD hS hA)) rfl rfl hl.1 rfl (lv_room (Nat.le_of_ble_eq_true rfl)) dL_steps_43 ⟨(show 0 + t * 9 + 4 + 1 ≤ 125 by omega), (show 0 + t * 54 + 24 + 6 ≤ 750 by omega)⟩) hD hS hA (fun w H locs hO hP hD hS => ?_)
          refine lv_aload_n hx hb dL_steps_46 rfl (lv_at hl 4 rfl) ?_
          refine lv_bipush (v := 19) hx hb dL_steps_47 (by decide) ?_
          refine cl_O (Φ := (fun w9 => OB y h T (s_X11_tick_z 1 (tzF z t)) (hpu (tzF z t) H9) s0 s1 w9)) (vx_runSX (As := [.ref h, .int 19]) (rest := [.int (qAbout 0 (s_X11_tick_z 1 (tzF z t))), .int (qAbout 3 (s_X11_tick_z 1 (tzF z t)))]) ⟨hx, hb, hml, hown, hts⟩ (w_about l G y h 19 w T (s_X11_tick_z 1 (tzF z t)) (hpu (tzF z t) H9) s0 s1 H.size hO hz  hfl) (vx_cwSW 2 hts gL_steps_L_tryAbout rfl rfl rfl (by decide +kernel) ⟨Nat.le_of_ble_eq_true rfl, Nat.le_of_ble_eq_true rfl⟩) (PHZ_S hP hK hN hD hTY hS (F_0 hD hS hA)) rfl rfl hl.1 rfl (lv_room (Nat.le_of_ble_eq_true rfl)) dL_steps_49 ⟨(show 0 + t * 9 + 5 + 1 ≤ 125 by omega), (show 0 + t * 54 + 30 + 6 ≤ 750 by omega)⟩) hD hS hA (fun w H locs hO hP hD hS => ?_)
          refine lv_imul hx hb dL_steps_52 ?_
          refine lv_iadd hx hb dL_steps_53 ?_
          refine lv_iload_n hx hb dL_steps_54 rfl (lv_at hl 1 rfl) ?_
          refine lv_isub hx hb dL_steps_55 ?_
          refine lv_istore (lv' := [(5, .int (((qAbout 3 (s_X11_tick_z 1 (tzF z t))) + ((qAbout 0 (s_X11_tick_z 1 (tzF z t))) * (qAbout 19 (s_X11_tick_z 1 (tzF z t))))) - (qAbout 12 (tzF z t)))), (4, .int (qTick 1 (tzF z t))), (3, .int (qAbout 12 (tzF z t))), (2, .int (nI t)), (1, .int 1), (0, .ref h)]) hx hb dL_steps_56 hl (by decide) rfl (fun ls hl => ?_)
          refine lv_iload hx hb dL_steps_58 (lv_at hl 0 rfl) ?_
          refine cl_Ri (va_runS (As := [.int (((qAbout 3 (s_X11_tick_z 1 (tzF z t))) + ((qAbout 0 (s_X11_tick_z 1 (tzF z t))) * (qAbout 19 (s_X11_tick_z 1 (tzF z t))))) - (qAbout 12 (tzF z t)))]) (rest := []) ⟨hx, hb, hml, hown, hts⟩ (c_L_size l G y (((qAbout 3 (s_X11_tick_z 1 (tzF z t))) + ((qAbout 0 (s_X11_tick_z 1 (tzF z t))) * (qAbout 19 (s_X11_tick_z 1 (tzF z t))))) - (qAbout 12 (tzF z t)))) (va_cwS 1 hts gL_steps_L_size rfl rfl rfl (by decide +kernel) ⟨Nat.le_of_ble_eq_true rfl, Nat.le_of_ble_eq_true rfl⟩) (PR_S pnil hK hN) rfl rfl hl.1 rfl (lv_room (Nat.le_of_ble_eq_true rfl)) dL_steps_60 ⟨(show 0 + t * 9 + 6 + 0 ≤ 125 by omega), (show 0 + t * 54 + 36 + 0 ≤ 750 by omega)⟩) ?_
          refine lv_aload_n hx hb dL_steps_63 rfl (lv_at hl 5 rfl) ?_
          refine lv_iconst (v := 1) hx hb dL_steps_64 (by decide) ?_
          refine cl_O (Φ := (fun w9 => OB y h T (s_X11_tick_z 1 (tzF z t)) (hpu (tzF z t) H9) s0 s1 w9)) (vx_runSX (As := [.ref h, .int 1]) (rest := [.int (sizeF (((qAbout 3 (s_X11_tick_z 1 (tzF z t))) + ((qAbout 0 (s_X11_tick_z 1 (tzF z t))) * (qAbout 19 (s_X11_tick_z 1 (tzF z t))))) - (qAbout 12 (tzF z t))))]) ⟨hx, hb, hml, hown, hts⟩ (w_about l G y h 1 w T (s_X11_tick_z 1 (tzF z t)) (hpu (tzF z t) H9) s0 s1 H.size hO hz  hfl) (vx_cwSW 2 hts gL_steps_L_tryAbout rfl rfl rfl (by decide +kernel) ⟨Nat.le_of_ble_eq_true rfl, Nat.le_of_ble_eq_true rfl⟩) (PHZ_S hP hK hN hD hTY hS (F_0 hD hS hA)) rfl rfl hl.1 rfl (lv_room (Nat.le_of_ble_eq_true rfl)) dL_steps_65 ⟨(show 0 + t * 9 + 6 + 1 ≤ 125 by omega), (show 0 + t * 54 + 36 + 6 ≤ 750 by omega)⟩) hD hS hA (fun w H locs hO hP hD hS => ?_)
          refine lv_idiv hx hb dL_steps_68 (n_68 t H9 ht hlt c_7) ?_
          refine lv_istore (lv' := [(6, .int ((sizeF (((qAbout 3 (s_X11_tick_z 1 (tzF z t))) + ((qAbout 0 (s_X11_tick_z 1 (tzF z t))) * (qAbout 19 (s_X11_tick_z 1 (tzF z t))))) - (qAbout 12 (tzF z t)))) / (qAbout 1 (s_X11_tick_z 1 (tzF z t))))), (5, .int (((qAbout 3 (s_X11_tick_z 1 (tzF z t))) + ((qAbout 0 (s_X11_tick_z 1 (tzF z t))) * (qAbout 19 (s_X11_tick_z 1 (tzF z t))))) - (qAbout 12 (tzF z t)))), (4, .int (qTick 1 (tzF z t))), (3, .int (qAbout 12 (tzF z t))), (2, .int (nI t)), (1, .int 1), (0, .ref h)]) hx hb dL_steps_69 hl (by decide) rfl (fun ls hl => ?_)
          refine lv_iload hx hb dL_steps_71 (lv_at hl 0 rfl) ?_
          have J87_10 : ∀ (v_9 : Int32) (e_v_9 : v_9 = (if ((sizeF (((qAbout 3 (s_X11_tick_z 1 (tzF z t))) + ((qAbout 0 (s_X11_tick_z 1 (tzF z t))) * (qAbout 19 (s_X11_tick_z 1 (tzF z t))))) - (qAbout 12 (tzF z t)))) / (qAbout 1 (s_X11_tick_z 1 (tzF z t)))) = 0 then (if (((qAbout 3 (s_X11_tick_z 1 (tzF z t))) + ((qAbout 0 (s_X11_tick_z 1 (tzF z t))) * (qAbout 19 (s_X11_tick_z 1 (tzF z t))))) - (qAbout 12 (tzF z t))) = 0 then ((sizeF (((qAbout 3 (s_X11_tick_z 1 (tzF z t))) + ((qAbout 0 (s_X11_tick_z 1 (tzF z t))) * (qAbout 19 (s_X11_tick_z 1 (tzF z t))))) - (qAbout 12 (tzF z t)))) / (qAbout 1 (s_X11_tick_z 1 (tzF z t)))) else (1 : Int32)) else ((sizeF (((qAbout 3 (s_X11_tick_z 1 (tzF z t))) + ((qAbout 0 (s_X11_tick_z 1 (tzF z t))) * (qAbout 19 (s_X11_tick_z 1 (tzF z t))))) - (qAbout 12 (tzF z t)))) / (qAbout 1 (s_X11_tick_z 1 (tzF z t)))))) (w : va_W) (hO : OB y h T (s_X11_tick_z 1 (tzF z t)) (hpu (tzF z t) H9) s0 s1 w) (H : Heap) (locs : List Loc) (hP : va_P G vwCl w H) (hD : va_D A w) (hS : va_S A s.heap H locs) (ls : Array Slot) (hl : lv_has ls 7 [(5, .int (((qAbout 3 (s_X11_tick_z 1 (tzF z t))) + ((qAbout 0 (s_X11_tick_z 1 (tzF z t))) * (qAbout 19 (s_X11_tick_z 1 (tzF z t))))) - (qAbout 12 (tzF z t)))), (4, .int (qTick 1 (tzF z t))), (3, .int (qAbout 12 (tzF z t))), (2, .int (nI t)), (0, .ref h)]), W p l e (headSpec wsL_steps rmL_steps).room s m ([.ref h] : List Value).toArray below meth c H locs (0 + t * 9 + 7) (0 + t * 54 + 42) QQ (F0 m 87 ls [.int v_9]) := by
            intro v_9 e_v_9 w hO H locs hP hD hS ls hl
            subst e_v_9
            refine lv_istore (lv' := [(6, .int (if ((sizeF (((qAbout 3 (s_X11_tick_z 1 (tzF z t))) + ((qAbout 0 (s_X11_tick_z 1 (tzF z t))) * (qAbout 19 (s_X11_tick_z 1 (tzF z t))))) - (qAbout 12 (tzF z t)))) / (qAbout 1 (s_X11_tick_z 1 (tzF z t)))) = 0 then (if (((qAbout 3 (s_X11_tick_z 1 (tzF z t))) + ((qAbout 0 (s_X11_tick_z 1 (tzF z t))) * (qAbout 19 (s_X11_tick_z 1 (tzF z t))))) - (qAbout 12 (tzF z t))) = 0 then ((sizeF (((qAbout 3 (s_X11_tick_z 1 (tzF z t))) + ((qAbout 0 (s_X11_tick_z 1 (tzF z t))) * (qAbout 19 (s_X11_tick_z 1 (tzF z t))))) - (qAbout 12 (tzF z t)))) / (qAbout 1 (s_X11_tick_z 1 (tzF z t)))) else (1 : Int32)) else ((sizeF (((qAbout 3 (s_X11_tick_z 1 (tzF z t))) + ((qAbout 0 (s_X11_tick_z 1 (tzF z t))) * (qAbout 19 (s_X11_tick_z 1 (tzF z t))))) - (qAbout 12 (tzF z t)))) / (qAbout 1 (s_X11_tick_z 1 (tzF z t)))))), (5, .int (((qAbout 3 (s_X11_tick_z 1 (tzF z t))) + ((qAbout 0 (s_X11_tick_z 1 (tzF z t))) * (qAbout 19 (s_X11_tick_z 1 (tzF z t))))) - (qAbout 12 (tzF z t)))), (4, .int (qTick 1 (tzF z t))), (3, .int (qAbout 12 (tzF z t))), (2, .int (nI t)), (0, .ref h)]) hx hb dL_steps_87 hl (by decide) rfl (fun ls hl => ?_)
            refine lv_iload hx hb dL_steps_89 (lv_at hl 2 rfl) ?_
            refine lv_iload_n hx hb dL_steps_91 rfl (lv_at hl 3 rfl) ?_
            refine lv_iload hx hb dL_steps_92 (lv_at hl 1 rfl) ?_
            have J105_13 : ∀ (v_12 : Int32) (e_v_12 : v_12 = (if 0 ≤ (((qAbout 3 (s_X11_tick_z 1 (tzF z t))) + ((qAbout 0 (s_X11_tick_z 1 (tzF z t))) * (qAbout 19 (s_X11_tick_z 1 (tzF z t))))) - (qAbout 12 (tzF z t))) then (if ((sizeF (((qAbout 3 (s_X11_tick_z 1 (tzF z t))) + ((qAbout 0 (s_X11_tick_z 1 (tzF z t))) * (qAbout 19 (s_X11_tick_z 1 (tzF z t))))) - (qAbout 12 (tzF z t)))) / (qAbout 1 (s_X11_tick_z 1 (tzF z t)))) = 0 then (if (((qAbout 3 (s_X11_tick_z 1 (tzF z t))) + ((qAbout 0 (s_X11_tick_z 1 (tzF z t))) * (qAbout 19 (s_X11_tick_z 1 (tzF z t))))) - (qAbout 12 (tzF z t))) = 0 then ((sizeF (((qAbout 3 (s_X11_tick_z 1 (tzF z t))) + ((qAbout 0 (s_X11_tick_z 1 (tzF z t))) * (qAbout 19 (s_X11_tick_z 1 (tzF z t))))) - (qAbout 12 (tzF z t)))) / (qAbout 1 (s_X11_tick_z 1 (tzF z t)))) else (1 : Int32)) else ((sizeF (((qAbout 3 (s_X11_tick_z 1 (tzF z t))) + ((qAbout 0 (s_X11_tick_z 1 (tzF z t))) * (qAbout 19 (s_X11_tick_z 1 (tzF z t))))) - (qAbout 12 (tzF z t)))) / (qAbout 1 (s_X11_tick_z 1 (tzF z t))))) else (-(if ((sizeF (((qAbout 3 (s_X11_tick_z 1 (tzF z t))) + ((qAbout 0 (s_X11_tick_z 1 (tzF z t))) * (qAbout 19 (s_X11_tick_z 1 (tzF z t))))) - (qAbout 12 (tzF z t)))) / (qAbout 1 (s_X11_tick_z 1 (tzF z t)))) = 0 then (if (((qAbout 3 (s_X11_tick_z 1 (tzF z t))) + ((qAbout 0 (s_X11_tick_z 1 (tzF z t))) * (qAbout 19 (s_X11_tick_z 1 (tzF z t))))) - (qAbout 12 (tzF z t))) = 0 then ((sizeF (((qAbout 3 (s_X11_tick_z 1 (tzF z t))) + ((qAbout 0 (s_X11_tick_z 1 (tzF z t))) * (qAbout 19 (s_X11_tick_z 1 (tzF z t))))) - (qAbout 12 (tzF z t)))) / (qAbout 1 (s_X11_tick_z 1 (tzF z t)))) else (1 : Int32)) else ((sizeF (((qAbout 3 (s_X11_tick_z 1 (tzF z t))) + ((qAbout 0 (s_X11_tick_z 1 (tzF z t))) * (qAbout 19 (s_X11_tick_z 1 (tzF z t))))) - (qAbout 12 (tzF z t)))) / (qAbout 1 (s_X11_tick_z 1 (tzF z t)))))))) (w : va_W) (hO : OB y h T (s_X11_tick_z 1 (tzF z t)) (hpu (tzF z t) H9) s0 s1 w) (H : Heap) (locs : List Loc) (hP : va_P G vwCl w H) (hD : va_D A w) (hS : va_S A s.heap H locs) (ls : Array Slot) (hl : lv_has ls 7 [(4, .int (qTick 1 (tzF z t))), (2, .int (nI t)), (0, .ref h)]), W p l e (headSpec wsL_steps rmL_steps).room s m ([.ref h] : List Value).toArray below meth c H locs (0 + t * 9 + 7) (0 + t * 54 + 42) QQ (F0 m 105 ls [.int v_12, .int (qAbout 12 (tzF z t)), .int (qTick 1 (tzF z t))]) := by
              intro v_12 e_v_12 w hO H locs hP hD hS ls hl
              subst e_v_12
              refine lv_iadd hx hb dL_steps_105 ?_
              have J120_15 : ∀  (w : va_W) (hO : OB y h T (s_X11_tick_z 1 (tzF z t)) (hpu (tzF z t) H9) s0 s1 w) (H : Heap) (locs : List Loc) (hP : va_P G vwCl w H) (hD : va_D A w) (hS : va_S A s.heap H locs) (ls : Array Slot) (hl : lv_has ls 7 [(2, .int (nI t)), (0, .ref h)]), W p l e (headSpec wsL_steps rmL_steps).room s m ([.ref h] : List Value).toArray below meth c H locs (0 + t * 9 + 7) (0 + t * 54 + 42) QQ (F0 m 120 ls []) := by
                intro w hO H locs hP hD hS ls hl
                refine lv_iconst (v := 1) hx hb dL_steps_120 (by decide) ?_
                refine lv_goto (tgt := 125) hx hb dL_steps_121 (by decide) ?_
                refine lv_istore_n (lv' := [(1, .int 1), (2, .int (nI t)), (0, .ref h)]) hx hb dL_steps_125 rfl hl (by decide) rfl (fun ls hl => ?_)
                refine lv_iinc (v := ((nI t) + 1)) (lv' := [(2, .int ((nI t) + 1)), (1, .int 1), (0, .ref h)]) hx hb dL_steps_126 hl (k := 1) rfl (by first | rfl | decide) (by decide) rfl (fun ls hl => ?_)
                refine lv_goto (tgt := 4) hx hb dL_steps_129 (by decide) ?_
                rw [show (nI t + 1 : Int32) = nI (t + 1) from nI_add t 1] at hl
                rw [tz_0 t] at hO
                refine W.widen (k := 0 + (t + 1) * 9) (n := 0 + (t + 1) * 54) (by omega) (by omega) ?_
                exact ih_3 (t + 1) (hpu (tzF z t) H9) (by omega) (by omega) w hO H locs hP hD hS ls (lv_sub hl [0, 1, 2] rfl)
              refine lv_icmp_eq (tgt := 120) hx hb dL_steps_106 (by decide) (fun c_14 => ?_) (fun c_14 => ?_)
              · exact J120_15 w hO H locs hP hD hS ls (lv_sub hl [1, 2] rfl)
              · refine lv_iload hx hb dL_steps_109 (lv_at hl 0 rfl) ?_
                refine cl_Ri (va_runS (As := [.int (qTick 1 (tzF z t))]) (rest := []) ⟨hx, hb, hml, hown, hts⟩ (c_L_size l G y (qTick 1 (tzF z t))) (va_cwS 1 hts gL_steps_L_size rfl rfl rfl (by decide +kernel) ⟨Nat.le_of_ble_eq_true rfl, Nat.le_of_ble_eq_true rfl⟩) (PR_S pnil hK hN) rfl rfl hl.1 rfl (lv_room (Nat.le_of_ble_eq_true rfl)) dL_steps_111 ⟨(show 0 + t * 9 + 7 + 0 ≤ 125 by omega), (show 0 + t * 54 + 42 + 0 ≤ 750 by omega)⟩) ?_
                refine lv_sipush (v := 9999) hx hb dL_steps_114 (by decide) ?_
                refine lv_icmp_ne (tgt := 124) hx hb dL_steps_117 (by decide) (fun c9 => absurd (f_117 t H9 ht hlt c_7 c_14) c9) (fun _ => ?_)
                exact J120_15 w hO H locs hP hD hS ls (lv_sub hl [1, 2] rfl)
            refine lv_if_ge (tgt := 103) hx hb dL_steps_94 (by decide) (fun c_11 => ?_) (fun c_11 => ?_)
            · refine lv_iload hx hb dL_steps_103 (lv_at hl 0 rfl) ?_
              exact J105_13 _ ((if_pos c_11).symm) w hO H locs hP hD hS ls (lv_sub hl [2, 4, 5] rfl)
            · refine lv_iload hx hb dL_steps_97 (lv_at hl 0 rfl) ?_
              refine lv_ineg hx hb dL_steps_99 ?_
              refine lv_goto (tgt := 105) hx hb dL_steps_100 (by decide) ?_
              exact J105_13 _ ((if_neg c_11).symm) w hO H locs hP hD hS ls (lv_sub hl [2, 4, 5] rfl)
          refine lv_if_ne (tgt := 85) hx hb dL_steps_73 (by decide) (fun c_8 => ?_) (fun c_8 => ?_)
          · refine lv_iload hx hb dL_steps_85 (lv_at hl 0 rfl) ?_
            exact J87_10 _ ((if_neg c_8).symm) w hO H locs hP hD hS ls (lv_sub hl [1, 2, 3, 4, 6] rfl)
          · refine lv_iload hx hb dL_steps_76 (lv_at hl 1 rfl) ?_
            refine lv_if_eq (tgt := 85) hx hb dL_steps_78 (by decide) (fun c_17 => ?_) (fun c_17 => ?_)
            · refine lv_iload hx hb dL_steps_85 (lv_at hl 0 rfl) ?_
              exact J87_10 _ (((if_pos c_8).trans (if_pos c_17)).symm) w hO H locs hP hD hS ls (lv_sub hl [1, 2, 3, 4, 6] rfl)
            · refine lv_iconst (v := 1) hx hb dL_steps_81 (by decide) ?_
              refine lv_goto (tgt := 87) hx hb dL_steps_82 (by decide) ?_
              exact J87_10 _ (((if_pos c_8).trans (if_neg c_17)).symm) w hO H locs hP hD hS ls (lv_sub hl [1, 2, 3, 4, 6] rfl)
  refine W.widen (k := 0 + 0 * 9) (n := 0 + 0 * 54) (by omega) (by omega) ?_
  exact LOOP4_1 (13 - 0 + 1) 0 Hs (by omega) (Nat.lt_succ_self _) w hO s.heap [] hP hD hS ls (lv_sub hl [0, 1, 2] rfl)

theorem kx_append (c : Int32) (T : List Int32) : kApp c T = 0 ∨ kApp c T = 1 ∨ kApp c T = 2 := by
  unfold kApp
  repeat' (first | refine k_ite (Q := (fun x : Int32 => x = 0 ∨ x = 1 ∨ x = 2)) ?_ ?_ | exact (Or.inl rfl) | exact (Or.inr (Or.inl rfl)) | exact (Or.inr (Or.inr rfl)))
abbrev rmL_tryAppend : Room := ({ frames := 7, cells := 1, slots := 6, locals := 111 } : Room)
theorem w_append (l : Launch) (G : va_G) (y : Nat → ClassId) (h : Nat) (a1 : Int32) (w : va_W) (T : List Int32) (z : Zs) (Hs : List Zs) (s0 s1 : Option Zs) (sz : Nat) (hO : OB y h T z Hs s0 s1 w) (hz : TS z) (hfl : l.stackTraces = false) : vx_Met l yL_tryAppend wsL_tryAppend rmL_tryAppend (PHZ G y [.ref h, .int a1] w sz) (QO G (qApp a1 T) (fun w9 => ((kApp a1 T) = 0 ∧ OB y h (T ++ [a1]) z Hs s0 s1 w9) ∨ (¬ (kApp a1 T) = 0 ∧ OB y h T z Hs s0 s1 w9)) (va_A w sz)) XN 1 6 (va_A w sz) := by
  refine vx_ofWH (cc := cL_tryAppend) (maxL := 3) (ret := (some .int)) (hh := [(0, 5, 6, 13), (0, 5, 10, 16)]) (by decide) rfl ?_
  intro p e s m args below meth c s₁ B hml hv
  obtain ⟨rfl, hsz, hP, ⟨hK, hN⟩, hD0, hTY⟩ := hv
  have hx := B.exec
  have hb := B.bytes
  have hr := B.returns
  have hts := atoms_spec (ws := wsL_tryAppend) B.pre
  have hown : s.vm.findClass RL = some m.cls := findClass_of_methodNamed B.named
  have htb : c.exceptionTable.toList = tableOf [(0, 5, 6, 13), (0, 5, 10, 16)] := vx_table (x := yL_tryAppend) B (hts (.codeWith yL_tryAppend cL_tryAppend 3 (some .int) [(0, 5, 6, 13), (0, 5, 10, 16)]) (List.mem_cons_self))
  subst hsz
  have hD := hD0.self (sz := s.heap.size)
  generalize hAe : va_A w s.heap.size = A at hD hTY ⊢
  have hA : ∀ q : Nat, s.heap.size ≤ q → A q := fun q h => by rw [← hAe]; exact Or.inr h
  have hS : va_S A s.heap s.heap [] := va_S.rf
  obtain ⟨fs, he⟩ := ob_in hO
  have hl := lv_entry ([.ref h, .int a1]) (n := 3) (Nat.le_of_ble_eq_true rfl)
  rw [lg_entry_eq]
  generalize (lg_sl ([.ref h, .int a1]) ++ List.replicate (3 - (lg_sl ([.ref h, .int a1])).length) Slot.unset).toArray = ls at hl ⊢
  have hl : lv_has ls 3 [(0, .ref h), (1, .int a1)] := hl
  obtain ⟨QQ, hQQ⟩ : ∃ zq9, zq9 = vx_MQ below (QO G (qApp a1 T) (fun w9 => ((kApp a1 T) = 0 ∧ OB y h (T ++ [a1]) z Hs s0 s1 w9) ∨ (¬ (kApp a1 T) = 0 ∧ OB y h T z Hs s0 s1 w9)) A) XN ([.ref h, .int a1] : List Value).toArray s 1 6 A := ⟨_, rfl⟩
  rw [← hQQ]
  refine lv_aload_n hx hb dL_tryAppend_0 rfl (lv_at hl 0 rfl) ?_
  refine lv_iload_n hx hb dL_tryAppend_1 rfl (lv_at hl 1 rfl) ?_
  refine cl_XO (vx_runV (As := [.int a1]) (rest := []) ⟨hx, hb, hml, hown, hts⟩ (x_append l G y h a1 w T z Hs s0 s1 s.heap.size hO hz hfl) (cwV 1 hts gL_tryAppend_X11_append rfl rfl rfl (by decide +kernel) ⟨Nat.le_of_ble_eq_true rfl, Nat.le_of_ble_eq_true rfl⟩) (PHX_O he hP hK hN hD hTY hS (F_0 hD hS hA)) rfl rfl hl.1 rfl (lv_room (Nat.le_of_ble_eq_true rfl)) dL_tryAppend_2 ⟨Nat.le_of_ble_eq_true rfl, Nat.le_of_ble_eq_true rfl⟩) hD hS hA (fun E ce q9 w9 H locs hE hO9 hP hD hS hce hcv hcl => ?_) (fun w9 H locs hO9 hP hD hS => ?_)
  · rcases hE with ⟨rfl, hE⟩ | ⟨rfl, hE⟩ | ⟨rfl, hE⟩
    · refine vx_catch hown [] ⟨0, 5, 6, 13⟩ [⟨0, 5, 10, 16⟩] (htb.trans rfl) (fun z hz => by cases hz) (by decide) (by decide) (hts (.classLink RL 13 "java/lang/IllegalArgumentException") (by decide +kernel)) (va_Nw.use rfl (hTY.1.2.1 _ mIA)) hce hcv hcl ?_
      refine lv_astore_n (lv' := [(2, .ref q9), (0, .ref h), (1, .int a1)]) hx hb dL_tryAppend_6 rfl hl (by decide) rfl (fun ls hl => ?_)
      refine lv_ldc (v := (-999002)) hx hb hown (hts (.constant RL 15 (-999002)) (by decide +kernel)) dL_tryAppend_7 ?_
      rw [hQQ]
      refine vx_ret ?_
      exact W.iret hx hb hr (end_O (Or.inr ⟨fun q => absurd (hE.trans q) (by decide), hO9⟩) hP hD hS (an_1 hE)) hS.2.2 dL_tryAppend_9
    · refine vx_catch hown [⟨0, 5, 6, 13⟩] ⟨0, 5, 10, 16⟩ [] (htb.trans rfl) (fun z hz => by rcases List.mem_singleton.mp hz with rfl; exact Or.inr ⟨by decide, "java/lang/IllegalArgumentException", hts (.classLink RL 13 "java/lang/IllegalArgumentException") (by decide +kernel), hTY.2 _ mSA⟩) (by decide) (by decide) (hts (.classLink RL 16 "java/lang/IllegalStateException") (by decide +kernel)) (va_Nw.use rfl (hTY.1.2.1 _ mIS)) hce hcv hcl ?_
      refine lv_astore_n (lv' := [(2, .ref q9), (0, .ref h), (1, .int a1)]) hx hb dL_tryAppend_10 rfl hl (by decide) rfl (fun ls hl => ?_)
      refine lv_ldc (v := (-999003)) hx hb hown (hts (.constant RL 18 (-999003)) (by decide +kernel)) dL_tryAppend_11 ?_
      rw [hQQ]
      refine vx_ret ?_
      exact W.iret hx hb hr (end_O (Or.inr ⟨fun q => absurd (hE.trans q) (by decide), hO9⟩) hP hD hS (an_2 hE)) hS.2.2 dL_tryAppend_13
    · rcases (kx_append _ _) with k9 | k9 | k9
      · exact absurd (hE.trans k9) (by decide)
      · exact absurd (hE.trans k9) (by decide)
      · exact absurd (hE.trans k9) (by decide)
  · rw [hQQ]
    refine vx_ret ?_
    exact W.iret hx hb hr (end_O (Or.inl hO9) hP hD hS (an_0 hO9.1)) hS.2.2 dL_tryAppend_5
abbrev rmL_tryLoad : Room := ({ frames := 7, cells := 1, slots := 6, locals := 134 } : Room)
theorem w_load (l : Launch) (G : va_G) (y : Nat → ClassId) (h : Nat)  (w : va_W) (T : List Int32) (z : Zs) (Hs : List Zs) (s0 s1 : Option Zs) (sz : Nat) (hO : OB y h T z Hs s0 s1 w) (hz : TS z) (K9 : Int32) (r9 : Int32) (zL : Zs) (hr9 : ∀ x9 ft, TXR T x9 ft → s_X11_load_k x9 ft = K9 ∧ (K9 = 0 → s_X11_load_r x9 ft zI = r9 ∧ s_X11_load_z x9 ft zI z = zL)) (hKv : K9 = 0 ∨ K9 = 2) (hfl : l.stackTraces = false) : vx_Met l yL_tryLoad wsL_tryLoad rmL_tryLoad (PHZ G y [.ref h] w sz) (QO G (an K9 r9) (fun w9 => (K9 = 0 ∧ OB y h T zL [] none none w9) ∨ (¬ K9 = 0 ∧ OB y h T z Hs s0 s1 w9)) (va_A w sz)) XN 1 6 (va_A w sz) := by
  refine vx_ofWH (cc := cL_tryLoad) (maxL := 2) (ret := (some .int)) (hh := [(0, 4, 5, 16)]) (by decide) rfl ?_
  intro p e s m args below meth c s₁ B hml hv
  obtain ⟨rfl, hsz, hP, ⟨hK, hN⟩, hD0, hTY⟩ := hv
  have hx := B.exec
  have hb := B.bytes
  have hr := B.returns
  have hts := atoms_spec (ws := wsL_tryLoad) B.pre
  have hown : s.vm.findClass RL = some m.cls := findClass_of_methodNamed B.named
  have htb : c.exceptionTable.toList = tableOf [(0, 4, 5, 16)] := vx_table (x := yL_tryLoad) B (hts (.codeWith yL_tryLoad cL_tryLoad 2 (some .int) [(0, 4, 5, 16)]) (List.mem_cons_self))
  subst hsz
  have hD := hD0.self (sz := s.heap.size)
  generalize hAe : va_A w s.heap.size = A at hD hTY ⊢
  have hA : ∀ q : Nat, s.heap.size ≤ q → A q := fun q h => by rw [← hAe]; exact Or.inr h
  have hS : va_S A s.heap s.heap [] := va_S.rf
  obtain ⟨fs, he⟩ := ob_in hO
  have hl := lv_entry ([.ref h]) (n := 2) (Nat.le_of_ble_eq_true rfl)
  rw [lg_entry_eq]
  generalize (lg_sl ([.ref h]) ++ List.replicate (2 - (lg_sl ([.ref h])).length) Slot.unset).toArray = ls at hl ⊢
  have hl : lv_has ls 2 [(0, .ref h)] := hl
  obtain ⟨QQ, hQQ⟩ : ∃ zq9, zq9 = vx_MQ below (QO G (an K9 r9) (fun w9 => (K9 = 0 ∧ OB y h T zL [] none none w9) ∨ (¬ K9 = 0 ∧ OB y h T z Hs s0 s1 w9)) A) XN ([.ref h] : List Value).toArray s 1 6 A := ⟨_, rfl⟩
  rw [← hQQ]
  refine lv_aload_n hx hb dL_tryLoad_0 rfl (lv_at hl 0 rfl) ?_
  refine cl_XO (vx_runV (As := []) (rest := []) ⟨hx, hb, hml, hown, hts⟩ (x_load l G y h  w T z Hs s0 s1 s.heap.size hO hz K9 r9 zL hr9 hfl) (cwV 0 hts gL_tryLoad_X11_load rfl rfl rfl (by decide +kernel) ⟨Nat.le_of_ble_eq_true rfl, Nat.le_of_ble_eq_true rfl⟩) (PHX_O he hP hK hN hD hTY hS (F_0 hD hS hA)) rfl rfl hl.1 rfl (lv_room (Nat.le_of_ble_eq_true rfl)) dL_tryLoad_1 ⟨Nat.le_of_ble_eq_true rfl, Nat.le_of_ble_eq_true rfl⟩) hD hS hA (fun E ce q9 w9 H locs hE hO9 hP hD hS hce hcv hcl => ?_) (fun w9 H locs hO9 hP hD hS => ?_)
  · rcases hE with ⟨rfl, hE⟩ | ⟨rfl, hE⟩ | ⟨rfl, hE⟩
    · rcases hKv with k9 | k9
      · exact absurd (hE.trans k9) (by decide)
      · exact absurd (hE.trans k9) (by decide)
    · refine vx_catch hown [] ⟨0, 4, 5, 16⟩ [] (htb.trans rfl) (fun z hz => by cases hz) (by decide) (by decide) (hts (.classLink RL 16 "java/lang/IllegalStateException") (by decide +kernel)) (va_Nw.use rfl (hTY.1.2.1 _ mIS)) hce hcv hcl ?_
      refine lv_astore_n (lv' := [(1, .ref q9), (0, .ref h)]) hx hb dL_tryLoad_5 rfl hl (by decide) rfl (fun ls hl => ?_)
      refine lv_ldc (v := (-999003)) hx hb hown (hts (.constant RL 18 (-999003)) (by decide +kernel)) dL_tryLoad_6 ?_
      rw [hQQ]
      refine vx_ret ?_
      exact W.iret hx hb hr (end_O (Or.inr ⟨fun q => absurd (hE.trans q) (by decide), hO9⟩) hP hD hS (an_2 hE)) hS.2.2 dL_tryLoad_8
    · rcases hKv with k9 | k9
      · exact absurd (hE.trans k9) (by decide)
      · exact absurd (hE.trans k9) (by decide)
  · rw [hQQ]
    refine vx_ret ?_
    exact W.iret hx hb hr (end_O (Or.inl hO9) hP hD hS (an_0 hO9.1)) hS.2.2 dL_tryLoad_4
theorem kx_about (a1 : Int32) : s_X11_about_k a1 = 0 ∨ s_X11_about_k a1 = 1 := by
  unfold s_X11_about_k
  repeat' (first | refine k_ite (Q := (fun x : Int32 => x = 0 ∨ x = 1)) ?_ ?_ | exact (Or.inl rfl) | exact (Or.inr rfl))
abbrev rmL_tryAbout : Room := ({ frames := 7, cells := 1, slots := 6, locals := 154 } : Room)
theorem w_about (l : Launch) (G : va_G) (y : Nat → ClassId) (h : Nat) (a1 : Int32) (w : va_W) (T : List Int32) (z : Zs) (Hs : List Zs) (s0 s1 : Option Zs) (sz : Nat) (hO : OB y h T z Hs s0 s1 w) (hz : TS z) (hfl : l.stackTraces = false) : vx_Met l yL_tryAbout wsL_tryAbout rmL_tryAbout (PHZ G y [.ref h, .int a1] w sz) (QO G (qAbout a1 z) (fun w9 => OB y h T z Hs s0 s1 w9) (va_A w sz)) XN 1 6 (va_A w sz) := by
  refine vx_ofWH (cc := cL_tryAbout) (maxL := 3) (ret := (some .int)) (hh := [(0, 5, 6, 13)]) (by decide) rfl ?_
  intro p e s m args below meth c s₁ B hml hv
  obtain ⟨rfl, hsz, hP, ⟨hK, hN⟩, hD0, hTY⟩ := hv
  have hx := B.exec
  have hb := B.bytes
  have hr := B.returns
  have hts := atoms_spec (ws := wsL_tryAbout) B.pre
  have hown : s.vm.findClass RL = some m.cls := findClass_of_methodNamed B.named
  have htb : c.exceptionTable.toList = tableOf [(0, 5, 6, 13)] := vx_table (x := yL_tryAbout) B (hts (.codeWith yL_tryAbout cL_tryAbout 3 (some .int) [(0, 5, 6, 13)]) (List.mem_cons_self))
  subst hsz
  have hD := hD0.self (sz := s.heap.size)
  generalize hAe : va_A w s.heap.size = A at hD hTY ⊢
  have hA : ∀ q : Nat, s.heap.size ≤ q → A q := fun q h => by rw [← hAe]; exact Or.inr h
  have hS : va_S A s.heap s.heap [] := va_S.rf
  obtain ⟨fs, he⟩ := ob_in hO
  have hl := lv_entry ([.ref h, .int a1]) (n := 3) (Nat.le_of_ble_eq_true rfl)
  rw [lg_entry_eq]
  generalize (lg_sl ([.ref h, .int a1]) ++ List.replicate (3 - (lg_sl ([.ref h, .int a1])).length) Slot.unset).toArray = ls at hl ⊢
  have hl : lv_has ls 3 [(0, .ref h), (1, .int a1)] := hl
  obtain ⟨QQ, hQQ⟩ : ∃ zq9, zq9 = vx_MQ below (QO G (qAbout a1 z) (fun w9 => OB y h T z Hs s0 s1 w9) A) XN ([.ref h, .int a1] : List Value).toArray s 1 6 A := ⟨_, rfl⟩
  rw [← hQQ]
  refine lv_aload_n hx hb dL_tryAbout_0 rfl (lv_at hl 0 rfl) ?_
  refine lv_iload_n hx hb dL_tryAbout_1 rfl (lv_at hl 1 rfl) ?_
  refine cl_XO (vx_runV (As := [.int a1]) (rest := []) ⟨hx, hb, hml, hown, hts⟩ (x_about l G y h a1 w T z Hs s0 s1 s.heap.size hO hz hfl) (cwV 1 hts gL_tryAbout_X11_about rfl rfl rfl (by decide +kernel) ⟨Nat.le_of_ble_eq_true rfl, Nat.le_of_ble_eq_true rfl⟩) (PHX_O he hP hK hN hD hTY hS (F_0 hD hS hA)) rfl rfl hl.1 rfl (lv_room (Nat.le_of_ble_eq_true rfl)) dL_tryAbout_2 ⟨Nat.le_of_ble_eq_true rfl, Nat.le_of_ble_eq_true rfl⟩) hD hS hA (fun E ce q9 w9 H locs hE hO9 hP hD hS hce hcv hcl => ?_) (fun w9 H locs hO9 hP hD hS => ?_)
  · rcases hE with ⟨rfl, hE⟩ | ⟨rfl, hE⟩ | ⟨rfl, hE⟩
    · refine vx_catch hown [] ⟨0, 5, 6, 13⟩ [] (htb.trans rfl) (fun z hz => by cases hz) (by decide) (by decide) (hts (.classLink RL 13 "java/lang/IllegalArgumentException") (by decide +kernel)) (va_Nw.use rfl (hTY.1.2.1 _ mIA)) hce hcv hcl ?_
      refine lv_astore_n (lv' := [(2, .ref q9), (0, .ref h), (1, .int a1)]) hx hb dL_tryAbout_6 rfl hl (by decide) rfl (fun ls hl => ?_)
      refine lv_ldc (v := (-999002)) hx hb hown (hts (.constant RL 15 (-999002)) (by decide +kernel)) dL_tryAbout_7 ?_
      rw [hQQ]
      refine vx_ret ?_
      exact W.iret hx hb hr (end_O hO9 hP hD hS (an_1 hE)) hS.2.2 dL_tryAbout_9
    · rcases (kx_about _) with k9 | k9
      · exact absurd (hE.trans k9) (by decide)
      · exact absurd (hE.trans k9) (by decide)
    · rcases (kx_about _) with k9 | k9
      · exact absurd (hE.trans k9) (by decide)
      · exact absurd (hE.trans k9) (by decide)
  · rw [hQQ]
    refine vx_ret ?_
    exact W.iret hx hb hr (end_O hO9.2 hP hD hS (an_0 hO9.1)) hS.2.2 dL_tryAbout_5
theorem kx_swing (a1 : Int32) (a2 : Int32) (z : Nat → Nat → Int32) : s_X11_swing_k a1 a2 z = 0 ∨ s_X11_swing_k a1 a2 z = 1 ∨ s_X11_swing_k a1 a2 z = 3 := by
  unfold s_X11_swing_k
  repeat' (first | refine k_ite (Q := (fun x : Int32 => x = 0 ∨ x = 1 ∨ x = 3)) ?_ ?_ | exact (Or.inl rfl) | exact (Or.inr (Or.inl rfl)) | exact (Or.inr (Or.inr rfl)))
abbrev rmL_trySwing : Room := ({ frames := 7, cells := 1, slots := 6, locals := 112 } : Room)
theorem w_swing (l : Launch) (G : va_G) (y : Nat → ClassId) (h : Nat) (a1 : Int32) (a2 : Int32) (w : va_W) (T : List Int32) (z : Zs) (Hs : List Zs) (s0 s1 : Option Zs) (sz : Nat) (hO : OB y h T z Hs s0 s1 w) (hz : TS z) (hfl : l.stackTraces = false) : vx_Met l yL_trySwing wsL_trySwing rmL_trySwing (PHZ G y [.ref h, .int a1, .int a2] w sz) (QO G (qSwing a1 a2 z) (fun w9 => OB y h T z Hs s0 s1 w9) (va_A w sz)) XN 1 6 (va_A w sz) := by
  refine vx_ofWH (cc := cL_trySwing) (maxL := 4) (ret := (some .int)) (hh := [(0, 6, 7, 30), (0, 6, 11, 13)]) (by decide) rfl ?_
  intro p e s m args below meth c s₁ B hml hv
  obtain ⟨rfl, hsz, hP, ⟨hK, hN⟩, hD0, hTY⟩ := hv
  have hx := B.exec
  have hb := B.bytes
  have hr := B.returns
  have hts := atoms_spec (ws := wsL_trySwing) B.pre
  have hown : s.vm.findClass RL = some m.cls := findClass_of_methodNamed B.named
  have htb : c.exceptionTable.toList = tableOf [(0, 6, 7, 30), (0, 6, 11, 13)] := vx_table (x := yL_trySwing) B (hts (.codeWith yL_trySwing cL_trySwing 4 (some .int) [(0, 6, 7, 30), (0, 6, 11, 13)]) (List.mem_cons_self))
  subst hsz
  have hD := hD0.self (sz := s.heap.size)
  generalize hAe : va_A w s.heap.size = A at hD hTY ⊢
  have hA : ∀ q : Nat, s.heap.size ≤ q → A q := fun q h => by rw [← hAe]; exact Or.inr h
  have hS : va_S A s.heap s.heap [] := va_S.rf
  obtain ⟨fs, he⟩ := ob_in hO
  have hl := lv_entry ([.ref h, .int a1, .int a2]) (n := 4) (Nat.le_of_ble_eq_true rfl)
  rw [lg_entry_eq]
  generalize (lg_sl ([.ref h, .int a1, .int a2]) ++ List.replicate (4 - (lg_sl ([.ref h, .int a1, .int a2])).length) Slot.unset).toArray = ls at hl ⊢
  have hl : lv_has ls 4 [(0, .ref h), (1, .int a1), (2, .int a2)] := hl
  obtain ⟨QQ, hQQ⟩ : ∃ zq9, zq9 = vx_MQ below (QO G (qSwing a1 a2 z) (fun w9 => OB y h T z Hs s0 s1 w9) A) XN ([.ref h, .int a1, .int a2] : List Value).toArray s 1 6 A := ⟨_, rfl⟩
  rw [← hQQ]
  refine lv_aload_n hx hb dL_trySwing_0 rfl (lv_at hl 0 rfl) ?_
  refine lv_iload_n hx hb dL_trySwing_1 rfl (lv_at hl 1 rfl) ?_
  refine lv_iload_n hx hb dL_trySwing_2 rfl (lv_at hl 2 rfl) ?_
  refine cl_XO (vx_runV (As := [.int a1, .int a2]) (rest := []) ⟨hx, hb, hml, hown, hts⟩ (x_swing l G y h a1 a2 w T z Hs s0 s1 s.heap.size hO hz hfl) (cwV 2 hts gL_trySwing_X11_swing rfl rfl rfl (by decide +kernel) ⟨Nat.le_of_ble_eq_true rfl, Nat.le_of_ble_eq_true rfl⟩) (PHX_O he hP hK hN hD hTY hS (F_0 hD hS hA)) rfl rfl hl.1 rfl (lv_room (Nat.le_of_ble_eq_true rfl)) dL_trySwing_3 ⟨Nat.le_of_ble_eq_true rfl, Nat.le_of_ble_eq_true rfl⟩) hD hS hA (fun E ce q9 w9 H locs hE hO9 hP hD hS hce hcv hcl => ?_) (fun w9 H locs hO9 hP hD hS => ?_)
  · rcases hE with ⟨rfl, hE⟩ | ⟨rfl, hE⟩ | ⟨rfl, hE⟩
    · refine vx_catch hown [⟨0, 6, 7, 30⟩] ⟨0, 6, 11, 13⟩ [] (htb.trans rfl) (fun z hz => by rcases List.mem_singleton.mp hz with rfl; exact Or.inr ⟨by decide, "java/lang/IndexOutOfBoundsException", hts (.classLink RL 30 "java/lang/IndexOutOfBoundsException") (by decide +kernel), hTY.2 _ mAO⟩) (by decide) (by decide) (hts (.classLink RL 13 "java/lang/IllegalArgumentException") (by decide +kernel)) (va_Nw.use rfl (hTY.1.2.1 _ mIA)) hce hcv hcl ?_
      refine lv_astore_n (lv' := [(3, .ref q9), (0, .ref h), (1, .int a1), (2, .int a2)]) hx hb dL_trySwing_11 rfl hl (by decide) rfl (fun ls hl => ?_)
      refine lv_ldc (v := (-999002)) hx hb hown (hts (.constant RL 15 (-999002)) (by decide +kernel)) dL_trySwing_12 ?_
      rw [hQQ]
      refine vx_ret ?_
      exact W.iret hx hb hr (end_O hO9 hP hD hS (an_1 hE)) hS.2.2 dL_trySwing_14
    · rcases (kx_swing _ _ _) with k9 | k9 | k9
      · exact absurd (hE.trans k9) (by decide)
      · exact absurd (hE.trans k9) (by decide)
      · exact absurd (hE.trans k9) (by decide)
    · refine vx_catch hown [] ⟨0, 6, 7, 30⟩ [⟨0, 6, 11, 13⟩] (htb.trans rfl) (fun z hz => by cases hz) (by decide) (by decide) (hts (.classLink RL 30 "java/lang/IndexOutOfBoundsException") (by decide +kernel)) (va_Nw.use rfl (hTY.1.2.1 _ mIO)) hce hcv hcl ?_
      refine lv_astore_n (lv' := [(3, .ref q9), (0, .ref h), (1, .int a1), (2, .int a2)]) hx hb dL_trySwing_7 rfl hl (by decide) rfl (fun ls hl => ?_)
      refine lv_ldc (v := (-999001)) hx hb hown (hts (.constant RL 32 (-999001)) (by decide +kernel)) dL_trySwing_8 ?_
      rw [hQQ]
      refine vx_ret ?_
      exact W.iret hx hb hr (end_O hO9 hP hD hS (an_3 hE)) hS.2.2 dL_trySwing_10
  · rw [hQQ]
    refine vx_ret ?_
    exact W.iret hx hb hr (end_O hO9.2 hP hD hS (an_0 hO9.1)) hS.2.2 dL_trySwing_6
theorem kx_account (a1 : Int32) : s_X11_account_k a1 = 0 ∨ s_X11_account_k a1 = 1 := by
  unfold s_X11_account_k
  repeat' (first | refine k_ite (Q := (fun x : Int32 => x = 0 ∨ x = 1)) ?_ ?_ | exact (Or.inl rfl) | exact (Or.inr rfl))
abbrev rmL_tryAccount : Room := ({ frames := 7, cells := 1, slots := 6, locals := 111 } : Room)
theorem w_account (l : Launch) (G : va_G) (y : Nat → ClassId) (h : Nat) (a1 : Int32) (w : va_W) (T : List Int32) (z : Zs) (Hs : List Zs) (s0 s1 : Option Zs) (sz : Nat) (hO : OB y h T z Hs s0 s1 w) (hz : TS z) (hfl : l.stackTraces = false) : vx_Met l yL_tryAccount wsL_tryAccount rmL_tryAccount (PHZ G y [.ref h, .int a1] w sz) (QO G (qAcc a1 z) (fun w9 => OB y h T z Hs s0 s1 w9) (va_A w sz)) XN 1 6 (va_A w sz) := by
  refine vx_ofWH (cc := cL_tryAccount) (maxL := 3) (ret := (some .int)) (hh := [(0, 5, 6, 13)]) (by decide) rfl ?_
  intro p e s m args below meth c s₁ B hml hv
  obtain ⟨rfl, hsz, hP, ⟨hK, hN⟩, hD0, hTY⟩ := hv
  have hx := B.exec
  have hb := B.bytes
  have hr := B.returns
  have hts := atoms_spec (ws := wsL_tryAccount) B.pre
  have hown : s.vm.findClass RL = some m.cls := findClass_of_methodNamed B.named
  have htb : c.exceptionTable.toList = tableOf [(0, 5, 6, 13)] := vx_table (x := yL_tryAccount) B (hts (.codeWith yL_tryAccount cL_tryAccount 3 (some .int) [(0, 5, 6, 13)]) (List.mem_cons_self))
  subst hsz
  have hD := hD0.self (sz := s.heap.size)
  generalize hAe : va_A w s.heap.size = A at hD hTY ⊢
  have hA : ∀ q : Nat, s.heap.size ≤ q → A q := fun q h => by rw [← hAe]; exact Or.inr h
  have hS : va_S A s.heap s.heap [] := va_S.rf
  obtain ⟨fs, he⟩ := ob_in hO
  have hl := lv_entry ([.ref h, .int a1]) (n := 3) (Nat.le_of_ble_eq_true rfl)
  rw [lg_entry_eq]
  generalize (lg_sl ([.ref h, .int a1]) ++ List.replicate (3 - (lg_sl ([.ref h, .int a1])).length) Slot.unset).toArray = ls at hl ⊢
  have hl : lv_has ls 3 [(0, .ref h), (1, .int a1)] := hl
  obtain ⟨QQ, hQQ⟩ : ∃ zq9, zq9 = vx_MQ below (QO G (qAcc a1 z) (fun w9 => OB y h T z Hs s0 s1 w9) A) XN ([.ref h, .int a1] : List Value).toArray s 1 6 A := ⟨_, rfl⟩
  rw [← hQQ]
  refine lv_aload_n hx hb dL_tryAccount_0 rfl (lv_at hl 0 rfl) ?_
  refine lv_iload_n hx hb dL_tryAccount_1 rfl (lv_at hl 1 rfl) ?_
  refine cl_XO (vx_runV (As := [.int a1]) (rest := []) ⟨hx, hb, hml, hown, hts⟩ (x_account l G y h a1 w T z Hs s0 s1 s.heap.size hO hz hfl) (cwV 1 hts gL_tryAccount_X11_account rfl rfl rfl (by decide +kernel) ⟨Nat.le_of_ble_eq_true rfl, Nat.le_of_ble_eq_true rfl⟩) (PHX_O he hP hK hN hD hTY hS (F_0 hD hS hA)) rfl rfl hl.1 rfl (lv_room (Nat.le_of_ble_eq_true rfl)) dL_tryAccount_2 ⟨Nat.le_of_ble_eq_true rfl, Nat.le_of_ble_eq_true rfl⟩) hD hS hA (fun E ce q9 w9 H locs hE hO9 hP hD hS hce hcv hcl => ?_) (fun w9 H locs hO9 hP hD hS => ?_)
  · rcases hE with ⟨rfl, hE⟩ | ⟨rfl, hE⟩ | ⟨rfl, hE⟩
    · refine vx_catch hown [] ⟨0, 5, 6, 13⟩ [] (htb.trans rfl) (fun z hz => by cases hz) (by decide) (by decide) (hts (.classLink RL 13 "java/lang/IllegalArgumentException") (by decide +kernel)) (va_Nw.use rfl (hTY.1.2.1 _ mIA)) hce hcv hcl ?_
      refine lv_astore_n (lv' := [(2, .ref q9), (0, .ref h), (1, .int a1)]) hx hb dL_tryAccount_6 rfl hl (by decide) rfl (fun ls hl => ?_)
      refine lv_ldc (v := (-999002)) hx hb hown (hts (.constant RL 15 (-999002)) (by decide +kernel)) dL_tryAccount_7 ?_
      rw [hQQ]
      refine vx_ret ?_
      exact W.iret hx hb hr (end_O hO9 hP hD hS (an_1 hE)) hS.2.2 dL_tryAccount_9
    · rcases (kx_account _) with k9 | k9
      · exact absurd (hE.trans k9) (by decide)
      · exact absurd (hE.trans k9) (by decide)
    · rcases (kx_account _) with k9 | k9
      · exact absurd (hE.trans k9) (by decide)
      · exact absurd (hE.trans k9) (by decide)
  · rw [hQQ]
    refine vx_ret ?_
    exact W.iret hx hb hr (end_O hO9.2 hP hD hS (an_0 hO9.1)) hS.2.2 dL_tryAccount_5
theorem kx_toleranceFor (a1 : Int32) : s_X11_toleranceFor_k a1 = 0 ∨ s_X11_toleranceFor_k a1 = 1 := by
  unfold s_X11_toleranceFor_k
  repeat' (first | refine k_ite (Q := (fun x : Int32 => x = 0 ∨ x = 1)) ?_ ?_ | exact (Or.inl rfl) | exact (Or.inr rfl))
abbrev rmL_tryToleranceFor : Room := ({ frames := 7, cells := 1, slots := 6, locals := 116 } : Room)
theorem w_toleranceFor (l : Launch) (G : va_G) (y : Nat → ClassId) (h : Nat) (a1 : Int32) (w : va_W) (T : List Int32) (z : Zs) (Hs : List Zs) (s0 s1 : Option Zs) (sz : Nat) (hO : OB y h T z Hs s0 s1 w) (hz : TS z) (hfl : l.stackTraces = false) : vx_Met l yL_tryToleranceFor wsL_tryToleranceFor rmL_tryToleranceFor (PHZ G y [.ref h, .int a1] w sz) (QO G (qTol a1 z) (fun w9 => OB y h T z Hs s0 s1 w9) (va_A w sz)) XN 1 6 (va_A w sz) := by
  refine vx_ofWH (cc := cL_tryToleranceFor) (maxL := 3) (ret := (some .int)) (hh := [(0, 5, 6, 13)]) (by decide) rfl ?_
  intro p e s m args below meth c s₁ B hml hv
  obtain ⟨rfl, hsz, hP, ⟨hK, hN⟩, hD0, hTY⟩ := hv
  have hx := B.exec
  have hb := B.bytes
  have hr := B.returns
  have hts := atoms_spec (ws := wsL_tryToleranceFor) B.pre
  have hown : s.vm.findClass RL = some m.cls := findClass_of_methodNamed B.named
  have htb : c.exceptionTable.toList = tableOf [(0, 5, 6, 13)] := vx_table (x := yL_tryToleranceFor) B (hts (.codeWith yL_tryToleranceFor cL_tryToleranceFor 3 (some .int) [(0, 5, 6, 13)]) (List.mem_cons_self))
  subst hsz
  have hD := hD0.self (sz := s.heap.size)
  generalize hAe : va_A w s.heap.size = A at hD hTY ⊢
  have hA : ∀ q : Nat, s.heap.size ≤ q → A q := fun q h => by rw [← hAe]; exact Or.inr h
  have hS : va_S A s.heap s.heap [] := va_S.rf
  obtain ⟨fs, he⟩ := ob_in hO
  have hl := lv_entry ([.ref h, .int a1]) (n := 3) (Nat.le_of_ble_eq_true rfl)
  rw [lg_entry_eq]
  generalize (lg_sl ([.ref h, .int a1]) ++ List.replicate (3 - (lg_sl ([.ref h, .int a1])).length) Slot.unset).toArray = ls at hl ⊢
  have hl : lv_has ls 3 [(0, .ref h), (1, .int a1)] := hl
  obtain ⟨QQ, hQQ⟩ : ∃ zq9, zq9 = vx_MQ below (QO G (qTol a1 z) (fun w9 => OB y h T z Hs s0 s1 w9) A) XN ([.ref h, .int a1] : List Value).toArray s 1 6 A := ⟨_, rfl⟩
  rw [← hQQ]
  refine lv_aload_n hx hb dL_tryToleranceFor_0 rfl (lv_at hl 0 rfl) ?_
  refine lv_iload_n hx hb dL_tryToleranceFor_1 rfl (lv_at hl 1 rfl) ?_
  refine cl_XO (vx_runV (As := [.int a1]) (rest := []) ⟨hx, hb, hml, hown, hts⟩ (x_toleranceFor l G y h a1 w T z Hs s0 s1 s.heap.size hO hz hfl) (cwV 1 hts gL_tryToleranceFor_X11_toleranceFor rfl rfl rfl (by decide +kernel) ⟨Nat.le_of_ble_eq_true rfl, Nat.le_of_ble_eq_true rfl⟩) (PHX_O he hP hK hN hD hTY hS (F_0 hD hS hA)) rfl rfl hl.1 rfl (lv_room (Nat.le_of_ble_eq_true rfl)) dL_tryToleranceFor_2 ⟨Nat.le_of_ble_eq_true rfl, Nat.le_of_ble_eq_true rfl⟩) hD hS hA (fun E ce q9 w9 H locs hE hO9 hP hD hS hce hcv hcl => ?_) (fun w9 H locs hO9 hP hD hS => ?_)
  · rcases hE with ⟨rfl, hE⟩ | ⟨rfl, hE⟩ | ⟨rfl, hE⟩
    · refine vx_catch hown [] ⟨0, 5, 6, 13⟩ [] (htb.trans rfl) (fun z hz => by cases hz) (by decide) (by decide) (hts (.classLink RL 13 "java/lang/IllegalArgumentException") (by decide +kernel)) (va_Nw.use rfl (hTY.1.2.1 _ mIA)) hce hcv hcl ?_
      refine lv_astore_n (lv' := [(2, .ref q9), (0, .ref h), (1, .int a1)]) hx hb dL_tryToleranceFor_6 rfl hl (by decide) rfl (fun ls hl => ?_)
      refine lv_ldc (v := (-999002)) hx hb hown (hts (.constant RL 15 (-999002)) (by decide +kernel)) dL_tryToleranceFor_7 ?_
      rw [hQQ]
      refine vx_ret ?_
      exact W.iret hx hb hr (end_O hO9 hP hD hS (an_1 hE)) hS.2.2 dL_tryToleranceFor_9
    · rcases (kx_toleranceFor _) with k9 | k9
      · exact absurd (hE.trans k9) (by decide)
      · exact absurd (hE.trans k9) (by decide)
    · rcases (kx_toleranceFor _) with k9 | k9
      · exact absurd (hE.trans k9) (by decide)
      · exact absurd (hE.trans k9) (by decide)
  · rw [hQQ]
    refine vx_ret ?_
    exact W.iret hx hb hr (end_O hO9.2 hP hD hS (an_0 hO9.1)) hS.2.2 dL_tryToleranceFor_5
theorem kx_proposal (a1 : Int32) (a2 : Int32) : s_X11_proposal_k a1 a2 = 0 ∨ s_X11_proposal_k a1 a2 = 1 ∨ s_X11_proposal_k a1 a2 = 3 := by
  unfold s_X11_proposal_k
  repeat' (first | refine k_ite (Q := (fun x : Int32 => x = 0 ∨ x = 1 ∨ x = 3)) ?_ ?_ | exact (Or.inl rfl) | exact (Or.inr (Or.inl rfl)) | exact (Or.inr (Or.inr rfl)))
abbrev rmL_tryProposal : Room := ({ frames := 7, cells := 1, slots := 6, locals := 120 } : Room)
theorem w_proposal (l : Launch) (G : va_G) (y : Nat → ClassId) (h : Nat) (a1 : Int32) (a2 : Int32) (w : va_W) (T : List Int32) (z : Zs) (Hs : List Zs) (s0 s1 : Option Zs) (sz : Nat) (hO : OB y h T z Hs s0 s1 w) (hz : TS z) (hfl : l.stackTraces = false) : vx_Met l yL_tryProposal wsL_tryProposal rmL_tryProposal (PHZ G y [.ref h, .int a1, .int a2] w sz) (QO G (qProp a1 a2 z) (fun w9 => OB y h T z Hs s0 s1 w9) (va_A w sz)) XN 1 6 (va_A w sz) := by
  refine vx_ofWH (cc := cL_tryProposal) (maxL := 4) (ret := (some .int)) (hh := [(0, 6, 7, 30), (0, 6, 11, 13)]) (by decide) rfl ?_
  intro p e s m args below meth c s₁ B hml hv
  obtain ⟨rfl, hsz, hP, ⟨hK, hN⟩, hD0, hTY⟩ := hv
  have hx := B.exec
  have hb := B.bytes
  have hr := B.returns
  have hts := atoms_spec (ws := wsL_tryProposal) B.pre
  have hown : s.vm.findClass RL = some m.cls := findClass_of_methodNamed B.named
  have htb : c.exceptionTable.toList = tableOf [(0, 6, 7, 30), (0, 6, 11, 13)] := vx_table (x := yL_tryProposal) B (hts (.codeWith yL_tryProposal cL_tryProposal 4 (some .int) [(0, 6, 7, 30), (0, 6, 11, 13)]) (List.mem_cons_self))
  subst hsz
  have hD := hD0.self (sz := s.heap.size)
  generalize hAe : va_A w s.heap.size = A at hD hTY ⊢
  have hA : ∀ q : Nat, s.heap.size ≤ q → A q := fun q h => by rw [← hAe]; exact Or.inr h
  have hS : va_S A s.heap s.heap [] := va_S.rf
  obtain ⟨fs, he⟩ := ob_in hO
  have hl := lv_entry ([.ref h, .int a1, .int a2]) (n := 4) (Nat.le_of_ble_eq_true rfl)
  rw [lg_entry_eq]
  generalize (lg_sl ([.ref h, .int a1, .int a2]) ++ List.replicate (4 - (lg_sl ([.ref h, .int a1, .int a2])).length) Slot.unset).toArray = ls at hl ⊢
  have hl : lv_has ls 4 [(0, .ref h), (1, .int a1), (2, .int a2)] := hl
  obtain ⟨QQ, hQQ⟩ : ∃ zq9, zq9 = vx_MQ below (QO G (qProp a1 a2 z) (fun w9 => OB y h T z Hs s0 s1 w9) A) XN ([.ref h, .int a1, .int a2] : List Value).toArray s 1 6 A := ⟨_, rfl⟩
  rw [← hQQ]
  refine lv_aload_n hx hb dL_tryProposal_0 rfl (lv_at hl 0 rfl) ?_
  refine lv_iload_n hx hb dL_tryProposal_1 rfl (lv_at hl 1 rfl) ?_
  refine lv_iload_n hx hb dL_tryProposal_2 rfl (lv_at hl 2 rfl) ?_
  refine cl_XO (vx_runV (As := [.int a1, .int a2]) (rest := []) ⟨hx, hb, hml, hown, hts⟩ (x_proposal l G y h a1 a2 w T z Hs s0 s1 s.heap.size hO hz hfl) (cwV 2 hts gL_tryProposal_X11_proposal rfl rfl rfl (by decide +kernel) ⟨Nat.le_of_ble_eq_true rfl, Nat.le_of_ble_eq_true rfl⟩) (PHX_O he hP hK hN hD hTY hS (F_0 hD hS hA)) rfl rfl hl.1 rfl (lv_room (Nat.le_of_ble_eq_true rfl)) dL_tryProposal_3 ⟨Nat.le_of_ble_eq_true rfl, Nat.le_of_ble_eq_true rfl⟩) hD hS hA (fun E ce q9 w9 H locs hE hO9 hP hD hS hce hcv hcl => ?_) (fun w9 H locs hO9 hP hD hS => ?_)
  · rcases hE with ⟨rfl, hE⟩ | ⟨rfl, hE⟩ | ⟨rfl, hE⟩
    · refine vx_catch hown [⟨0, 6, 7, 30⟩] ⟨0, 6, 11, 13⟩ [] (htb.trans rfl) (fun z hz => by rcases List.mem_singleton.mp hz with rfl; exact Or.inr ⟨by decide, "java/lang/IndexOutOfBoundsException", hts (.classLink RL 30 "java/lang/IndexOutOfBoundsException") (by decide +kernel), hTY.2 _ mAO⟩) (by decide) (by decide) (hts (.classLink RL 13 "java/lang/IllegalArgumentException") (by decide +kernel)) (va_Nw.use rfl (hTY.1.2.1 _ mIA)) hce hcv hcl ?_
      refine lv_astore_n (lv' := [(3, .ref q9), (0, .ref h), (1, .int a1), (2, .int a2)]) hx hb dL_tryProposal_11 rfl hl (by decide) rfl (fun ls hl => ?_)
      refine lv_ldc (v := (-999002)) hx hb hown (hts (.constant RL 15 (-999002)) (by decide +kernel)) dL_tryProposal_12 ?_
      rw [hQQ]
      refine vx_ret ?_
      exact W.iret hx hb hr (end_O hO9 hP hD hS (an_1 hE)) hS.2.2 dL_tryProposal_14
    · rcases (kx_proposal _ _) with k9 | k9 | k9
      · exact absurd (hE.trans k9) (by decide)
      · exact absurd (hE.trans k9) (by decide)
      · exact absurd (hE.trans k9) (by decide)
    · refine vx_catch hown [] ⟨0, 6, 7, 30⟩ [⟨0, 6, 11, 13⟩] (htb.trans rfl) (fun z hz => by cases hz) (by decide) (by decide) (hts (.classLink RL 30 "java/lang/IndexOutOfBoundsException") (by decide +kernel)) (va_Nw.use rfl (hTY.1.2.1 _ mIO)) hce hcv hcl ?_
      refine lv_astore_n (lv' := [(3, .ref q9), (0, .ref h), (1, .int a1), (2, .int a2)]) hx hb dL_tryProposal_7 rfl hl (by decide) rfl (fun ls hl => ?_)
      refine lv_ldc (v := (-999001)) hx hb hown (hts (.constant RL 32 (-999001)) (by decide +kernel)) dL_tryProposal_8 ?_
      rw [hQQ]
      refine vx_ret ?_
      exact W.iret hx hb hr (end_O hO9 hP hD hS (an_3 hE)) hS.2.2 dL_tryProposal_10
  · rw [hQQ]
    refine vx_ret ?_
    exact W.iret hx hb hr (end_O hO9.2 hP hD hS (an_0 hO9.1)) hS.2.2 dL_tryProposal_6
theorem kx_tick (a1 : Int32) : s_X11_tick_k a1 = 0 ∨ s_X11_tick_k a1 = 1 := by
  unfold s_X11_tick_k
  repeat' (first | refine k_ite (Q := (fun x : Int32 => x = 0 ∨ x = 1)) ?_ ?_ | exact (Or.inl rfl) | exact (Or.inr rfl))
abbrev rmL_tryTick : Room := ({ frames := 7, cells := 1, slots := 6, locals := 144 } : Room)
theorem w_tick (l : Launch) (G : va_G) (y : Nat → ClassId) (h : Nat) (a1 : Int32) (w : va_W) (T : List Int32) (z : Zs) (Hs : List Zs) (s0 s1 : Option Zs) (sz : Nat) (hO : OB y h T z Hs s0 s1 w) (hz : TS z) (hfl : l.stackTraces = false) : vx_Met l yL_tryTick wsL_tryTick rmL_tryTick (PHZ G y [.ref h, .int a1] w sz) (QO G (qTick a1 z) (fun w9 => ((s_X11_tick_k a1) = 0 ∧ OB y h T (s_X11_tick_z a1 z) (hpu z Hs) s0 s1 w9) ∨ (¬ (s_X11_tick_k a1) = 0 ∧ OB y h T z Hs s0 s1 w9)) (va_A w sz)) XN 1 6 (va_A w sz) := by
  refine vx_ofWH (cc := cL_tryTick) (maxL := 3) (ret := (some .int)) (hh := [(0, 5, 6, 13)]) (by decide) rfl ?_
  intro p e s m args below meth c s₁ B hml hv
  obtain ⟨rfl, hsz, hP, ⟨hK, hN⟩, hD0, hTY⟩ := hv
  have hx := B.exec
  have hb := B.bytes
  have hr := B.returns
  have hts := atoms_spec (ws := wsL_tryTick) B.pre
  have hown : s.vm.findClass RL = some m.cls := findClass_of_methodNamed B.named
  have htb : c.exceptionTable.toList = tableOf [(0, 5, 6, 13)] := vx_table (x := yL_tryTick) B (hts (.codeWith yL_tryTick cL_tryTick 3 (some .int) [(0, 5, 6, 13)]) (List.mem_cons_self))
  subst hsz
  have hD := hD0.self (sz := s.heap.size)
  generalize hAe : va_A w s.heap.size = A at hD hTY ⊢
  have hA : ∀ q : Nat, s.heap.size ≤ q → A q := fun q h => by rw [← hAe]; exact Or.inr h
  have hS : va_S A s.heap s.heap [] := va_S.rf
  obtain ⟨fs, he⟩ := ob_in hO
  have hl := lv_entry ([.ref h, .int a1]) (n := 3) (Nat.le_of_ble_eq_true rfl)
  rw [lg_entry_eq]
  generalize (lg_sl ([.ref h, .int a1]) ++ List.replicate (3 - (lg_sl ([.ref h, .int a1])).length) Slot.unset).toArray = ls at hl ⊢
  have hl : lv_has ls 3 [(0, .ref h), (1, .int a1)] := hl
  obtain ⟨QQ, hQQ⟩ : ∃ zq9, zq9 = vx_MQ below (QO G (qTick a1 z) (fun w9 => ((s_X11_tick_k a1) = 0 ∧ OB y h T (s_X11_tick_z a1 z) (hpu z Hs) s0 s1 w9) ∨ (¬ (s_X11_tick_k a1) = 0 ∧ OB y h T z Hs s0 s1 w9)) A) XN ([.ref h, .int a1] : List Value).toArray s 1 6 A := ⟨_, rfl⟩
  rw [← hQQ]
  refine lv_aload_n hx hb dL_tryTick_0 rfl (lv_at hl 0 rfl) ?_
  refine lv_iload_n hx hb dL_tryTick_1 rfl (lv_at hl 1 rfl) ?_
  refine cl_XO (vx_runV (As := [.int a1]) (rest := []) ⟨hx, hb, hml, hown, hts⟩ (x_tick l G y h a1 w T z Hs s0 s1 s.heap.size hO hz hfl) (cwV 1 hts gL_tryTick_X11_tick rfl rfl rfl (by decide +kernel) ⟨Nat.le_of_ble_eq_true rfl, Nat.le_of_ble_eq_true rfl⟩) (PHX_O he hP hK hN hD hTY hS (F_0 hD hS hA)) rfl rfl hl.1 rfl (lv_room (Nat.le_of_ble_eq_true rfl)) dL_tryTick_2 ⟨Nat.le_of_ble_eq_true rfl, Nat.le_of_ble_eq_true rfl⟩) hD hS hA (fun E ce q9 w9 H locs hE hO9 hP hD hS hce hcv hcl => ?_) (fun w9 H locs hO9 hP hD hS => ?_)
  · rcases hE with ⟨rfl, hE⟩ | ⟨rfl, hE⟩ | ⟨rfl, hE⟩
    · refine vx_catch hown [] ⟨0, 5, 6, 13⟩ [] (htb.trans rfl) (fun z hz => by cases hz) (by decide) (by decide) (hts (.classLink RL 13 "java/lang/IllegalArgumentException") (by decide +kernel)) (va_Nw.use rfl (hTY.1.2.1 _ mIA)) hce hcv hcl ?_
      refine lv_astore_n (lv' := [(2, .ref q9), (0, .ref h), (1, .int a1)]) hx hb dL_tryTick_6 rfl hl (by decide) rfl (fun ls hl => ?_)
      refine lv_ldc (v := (-999002)) hx hb hown (hts (.constant RL 15 (-999002)) (by decide +kernel)) dL_tryTick_7 ?_
      rw [hQQ]
      refine vx_ret ?_
      exact W.iret hx hb hr (end_O (Or.inr ⟨fun q => absurd (hE.trans q) (by decide), hO9⟩) hP hD hS (an_1 hE)) hS.2.2 dL_tryTick_9
    · rcases (kx_tick _) with k9 | k9
      · exact absurd (hE.trans k9) (by decide)
      · exact absurd (hE.trans k9) (by decide)
    · rcases (kx_tick _) with k9 | k9
      · exact absurd (hE.trans k9) (by decide)
      · exact absurd (hE.trans k9) (by decide)
  · rw [hQQ]
    refine vx_ret ?_
    exact W.iret hx hb hr (end_O (Or.inl hO9) hP hD hS (an_0 hO9.1)) hS.2.2 dL_tryTick_5
theorem kx_mode (a1 : Int32) : s_X11_mode_k a1 = 0 ∨ s_X11_mode_k a1 = 1 := by
  unfold s_X11_mode_k
  repeat' (first | refine k_ite (Q := (fun x : Int32 => x = 0 ∨ x = 1)) ?_ ?_ | exact (Or.inl rfl) | exact (Or.inr rfl))
abbrev rmL_tryMode : Room := ({ frames := 7, cells := 1, slots := 6, locals := 145 } : Room)
theorem w_mode (l : Launch) (G : va_G) (y : Nat → ClassId) (h : Nat) (a1 : Int32) (w : va_W) (T : List Int32) (z : Zs) (Hs : List Zs) (s0 s1 : Option Zs) (sz : Nat) (hO : OB y h T z Hs s0 s1 w) (hz : TS z) (hfl : l.stackTraces = false) : vx_Met l yL_tryMode wsL_tryMode rmL_tryMode (PHZ G y [.ref h, .int a1] w sz) (QO G (qMode a1 z) (fun w9 => ((s_X11_mode_k a1) = 0 ∧ OB y h T (s_X11_mode_z a1 z) (hpu z Hs) s0 s1 w9) ∨ (¬ (s_X11_mode_k a1) = 0 ∧ OB y h T z Hs s0 s1 w9)) (va_A w sz)) XN 1 6 (va_A w sz) := by
  refine vx_ofWH (cc := cL_tryMode) (maxL := 3) (ret := (some .int)) (hh := [(0, 5, 6, 13)]) (by decide) rfl ?_
  intro p e s m args below meth c s₁ B hml hv
  obtain ⟨rfl, hsz, hP, ⟨hK, hN⟩, hD0, hTY⟩ := hv
  have hx := B.exec
  have hb := B.bytes
  have hr := B.returns
  have hts := atoms_spec (ws := wsL_tryMode) B.pre
  have hown : s.vm.findClass RL = some m.cls := findClass_of_methodNamed B.named
  have htb : c.exceptionTable.toList = tableOf [(0, 5, 6, 13)] := vx_table (x := yL_tryMode) B (hts (.codeWith yL_tryMode cL_tryMode 3 (some .int) [(0, 5, 6, 13)]) (List.mem_cons_self))
  subst hsz
  have hD := hD0.self (sz := s.heap.size)
  generalize hAe : va_A w s.heap.size = A at hD hTY ⊢
  have hA : ∀ q : Nat, s.heap.size ≤ q → A q := fun q h => by rw [← hAe]; exact Or.inr h
  have hS : va_S A s.heap s.heap [] := va_S.rf
  obtain ⟨fs, he⟩ := ob_in hO
  have hl := lv_entry ([.ref h, .int a1]) (n := 3) (Nat.le_of_ble_eq_true rfl)
  rw [lg_entry_eq]
  generalize (lg_sl ([.ref h, .int a1]) ++ List.replicate (3 - (lg_sl ([.ref h, .int a1])).length) Slot.unset).toArray = ls at hl ⊢
  have hl : lv_has ls 3 [(0, .ref h), (1, .int a1)] := hl
  obtain ⟨QQ, hQQ⟩ : ∃ zq9, zq9 = vx_MQ below (QO G (qMode a1 z) (fun w9 => ((s_X11_mode_k a1) = 0 ∧ OB y h T (s_X11_mode_z a1 z) (hpu z Hs) s0 s1 w9) ∨ (¬ (s_X11_mode_k a1) = 0 ∧ OB y h T z Hs s0 s1 w9)) A) XN ([.ref h, .int a1] : List Value).toArray s 1 6 A := ⟨_, rfl⟩
  rw [← hQQ]
  refine lv_aload_n hx hb dL_tryMode_0 rfl (lv_at hl 0 rfl) ?_
  refine lv_iload_n hx hb dL_tryMode_1 rfl (lv_at hl 1 rfl) ?_
  refine cl_XO (vx_runV (As := [.int a1]) (rest := []) ⟨hx, hb, hml, hown, hts⟩ (x_mode l G y h a1 w T z Hs s0 s1 s.heap.size hO hz hfl) (cwV 1 hts gL_tryMode_X11_mode rfl rfl rfl (by decide +kernel) ⟨Nat.le_of_ble_eq_true rfl, Nat.le_of_ble_eq_true rfl⟩) (PHX_O he hP hK hN hD hTY hS (F_0 hD hS hA)) rfl rfl hl.1 rfl (lv_room (Nat.le_of_ble_eq_true rfl)) dL_tryMode_2 ⟨Nat.le_of_ble_eq_true rfl, Nat.le_of_ble_eq_true rfl⟩) hD hS hA (fun E ce q9 w9 H locs hE hO9 hP hD hS hce hcv hcl => ?_) (fun w9 H locs hO9 hP hD hS => ?_)
  · rcases hE with ⟨rfl, hE⟩ | ⟨rfl, hE⟩ | ⟨rfl, hE⟩
    · refine vx_catch hown [] ⟨0, 5, 6, 13⟩ [] (htb.trans rfl) (fun z hz => by cases hz) (by decide) (by decide) (hts (.classLink RL 13 "java/lang/IllegalArgumentException") (by decide +kernel)) (va_Nw.use rfl (hTY.1.2.1 _ mIA)) hce hcv hcl ?_
      refine lv_astore_n (lv' := [(2, .ref q9), (0, .ref h), (1, .int a1)]) hx hb dL_tryMode_6 rfl hl (by decide) rfl (fun ls hl => ?_)
      refine lv_ldc (v := (-999002)) hx hb hown (hts (.constant RL 15 (-999002)) (by decide +kernel)) dL_tryMode_7 ?_
      rw [hQQ]
      refine vx_ret ?_
      exact W.iret hx hb hr (end_O (Or.inr ⟨fun q => absurd (hE.trans q) (by decide), hO9⟩) hP hD hS (an_1 hE)) hS.2.2 dL_tryMode_9
    · rcases (kx_mode _) with k9 | k9
      · exact absurd (hE.trans k9) (by decide)
      · exact absurd (hE.trans k9) (by decide)
    · rcases (kx_mode _) with k9 | k9
      · exact absurd (hE.trans k9) (by decide)
      · exact absurd (hE.trans k9) (by decide)
  · rw [hQQ]
    refine vx_ret ?_
    exact W.iret hx hb hr (end_O (Or.inl hO9) hP hD hS (an_0 hO9.1)) hS.2.2 dL_tryMode_5
theorem kx_set (a1 : Int32) (a2 : Int32) : s_X11_set_k a1 a2 = 0 ∨ s_X11_set_k a1 a2 = 1 := by
  unfold s_X11_set_k
  repeat' (first | refine k_ite (Q := (fun x : Int32 => x = 0 ∨ x = 1)) ?_ ?_ | exact (Or.inl rfl) | exact (Or.inr rfl))
abbrev rmL_trySet : Room := ({ frames := 7, cells := 1, slots := 6, locals := 146 } : Room)
theorem w_set (l : Launch) (G : va_G) (y : Nat → ClassId) (h : Nat) (a1 : Int32) (a2 : Int32) (w : va_W) (T : List Int32) (z : Zs) (Hs : List Zs) (s0 s1 : Option Zs) (sz : Nat) (hO : OB y h T z Hs s0 s1 w) (hz : TS z) (hfl : l.stackTraces = false) : vx_Met l yL_trySet wsL_trySet rmL_trySet (PHZ G y [.ref h, .int a1, .int a2] w sz) (QO G (qSet a1 a2 z) (fun w9 => ((s_X11_set_k a1 a2) = 0 ∧ OB y h T (s_X11_set_z a1 a2 z) (hpu z Hs) s0 s1 w9) ∨ (¬ (s_X11_set_k a1 a2) = 0 ∧ OB y h T z Hs s0 s1 w9)) (va_A w sz)) XN 1 6 (va_A w sz) := by
  refine vx_ofWH (cc := cL_trySet) (maxL := 4) (ret := (some .int)) (hh := [(0, 6, 7, 13)]) (by decide) rfl ?_
  intro p e s m args below meth c s₁ B hml hv
  obtain ⟨rfl, hsz, hP, ⟨hK, hN⟩, hD0, hTY⟩ := hv
  have hx := B.exec
  have hb := B.bytes
  have hr := B.returns
  have hts := atoms_spec (ws := wsL_trySet) B.pre
  have hown : s.vm.findClass RL = some m.cls := findClass_of_methodNamed B.named
  have htb : c.exceptionTable.toList = tableOf [(0, 6, 7, 13)] := vx_table (x := yL_trySet) B (hts (.codeWith yL_trySet cL_trySet 4 (some .int) [(0, 6, 7, 13)]) (List.mem_cons_self))
  subst hsz
  have hD := hD0.self (sz := s.heap.size)
  generalize hAe : va_A w s.heap.size = A at hD hTY ⊢
  have hA : ∀ q : Nat, s.heap.size ≤ q → A q := fun q h => by rw [← hAe]; exact Or.inr h
  have hS : va_S A s.heap s.heap [] := va_S.rf
  obtain ⟨fs, he⟩ := ob_in hO
  have hl := lv_entry ([.ref h, .int a1, .int a2]) (n := 4) (Nat.le_of_ble_eq_true rfl)
  rw [lg_entry_eq]
  generalize (lg_sl ([.ref h, .int a1, .int a2]) ++ List.replicate (4 - (lg_sl ([.ref h, .int a1, .int a2])).length) Slot.unset).toArray = ls at hl ⊢
  have hl : lv_has ls 4 [(0, .ref h), (1, .int a1), (2, .int a2)] := hl
  obtain ⟨QQ, hQQ⟩ : ∃ zq9, zq9 = vx_MQ below (QO G (qSet a1 a2 z) (fun w9 => ((s_X11_set_k a1 a2) = 0 ∧ OB y h T (s_X11_set_z a1 a2 z) (hpu z Hs) s0 s1 w9) ∨ (¬ (s_X11_set_k a1 a2) = 0 ∧ OB y h T z Hs s0 s1 w9)) A) XN ([.ref h, .int a1, .int a2] : List Value).toArray s 1 6 A := ⟨_, rfl⟩
  rw [← hQQ]
  refine lv_aload_n hx hb dL_trySet_0 rfl (lv_at hl 0 rfl) ?_
  refine lv_iload_n hx hb dL_trySet_1 rfl (lv_at hl 1 rfl) ?_
  refine lv_iload_n hx hb dL_trySet_2 rfl (lv_at hl 2 rfl) ?_
  refine cl_XO (vx_runV (As := [.int a1, .int a2]) (rest := []) ⟨hx, hb, hml, hown, hts⟩ (x_set l G y h a1 a2 w T z Hs s0 s1 s.heap.size hO hz hfl) (cwV 2 hts gL_trySet_X11_set rfl rfl rfl (by decide +kernel) ⟨Nat.le_of_ble_eq_true rfl, Nat.le_of_ble_eq_true rfl⟩) (PHX_O he hP hK hN hD hTY hS (F_0 hD hS hA)) rfl rfl hl.1 rfl (lv_room (Nat.le_of_ble_eq_true rfl)) dL_trySet_3 ⟨Nat.le_of_ble_eq_true rfl, Nat.le_of_ble_eq_true rfl⟩) hD hS hA (fun E ce q9 w9 H locs hE hO9 hP hD hS hce hcv hcl => ?_) (fun w9 H locs hO9 hP hD hS => ?_)
  · rcases hE with ⟨rfl, hE⟩ | ⟨rfl, hE⟩ | ⟨rfl, hE⟩
    · refine vx_catch hown [] ⟨0, 6, 7, 13⟩ [] (htb.trans rfl) (fun z hz => by cases hz) (by decide) (by decide) (hts (.classLink RL 13 "java/lang/IllegalArgumentException") (by decide +kernel)) (va_Nw.use rfl (hTY.1.2.1 _ mIA)) hce hcv hcl ?_
      refine lv_astore_n (lv' := [(3, .ref q9), (0, .ref h), (1, .int a1), (2, .int a2)]) hx hb dL_trySet_7 rfl hl (by decide) rfl (fun ls hl => ?_)
      refine lv_ldc (v := (-999002)) hx hb hown (hts (.constant RL 15 (-999002)) (by decide +kernel)) dL_trySet_8 ?_
      rw [hQQ]
      refine vx_ret ?_
      exact W.iret hx hb hr (end_O (Or.inr ⟨fun q => absurd (hE.trans q) (by decide), hO9⟩) hP hD hS (an_1 hE)) hS.2.2 dL_trySet_10
    · rcases (kx_set _ _) with k9 | k9
      · exact absurd (hE.trans k9) (by decide)
      · exact absurd (hE.trans k9) (by decide)
    · rcases (kx_set _ _) with k9 | k9
      · exact absurd (hE.trans k9) (by decide)
      · exact absurd (hE.trans k9) (by decide)
  · rw [hQQ]
    refine vx_ret ?_
    exact W.iret hx hb hr (end_O (Or.inl hO9) hP hD hS (an_0 hO9.1)) hS.2.2 dL_trySet_6
theorem kx_disturb (a1 : Int32) : s_X11_disturb_k a1 = 0 ∨ s_X11_disturb_k a1 = 1 := by
  unfold s_X11_disturb_k
  repeat' (first | refine k_ite (Q := (fun x : Int32 => x = 0 ∨ x = 1)) ?_ ?_ | exact (Or.inl rfl) | exact (Or.inr rfl))
abbrev rmL_tryDisturb : Room := ({ frames := 7, cells := 1, slots := 6, locals := 144 } : Room)
theorem w_disturb (l : Launch) (G : va_G) (y : Nat → ClassId) (h : Nat) (a1 : Int32) (w : va_W) (T : List Int32) (z : Zs) (Hs : List Zs) (s0 s1 : Option Zs) (sz : Nat) (hO : OB y h T z Hs s0 s1 w) (hz : TS z) (hfl : l.stackTraces = false) : vx_Met l yL_tryDisturb wsL_tryDisturb rmL_tryDisturb (PHZ G y [.ref h, .int a1] w sz) (QO G (qDist a1 z) (fun w9 => ((s_X11_disturb_k a1) = 0 ∧ OB y h T (s_X11_disturb_z a1 z) (hpu z Hs) s0 s1 w9) ∨ (¬ (s_X11_disturb_k a1) = 0 ∧ OB y h T z Hs s0 s1 w9)) (va_A w sz)) XN 1 6 (va_A w sz) := by
  refine vx_ofWH (cc := cL_tryDisturb) (maxL := 3) (ret := (some .int)) (hh := [(0, 5, 6, 13)]) (by decide) rfl ?_
  intro p e s m args below meth c s₁ B hml hv
  obtain ⟨rfl, hsz, hP, ⟨hK, hN⟩, hD0, hTY⟩ := hv
  have hx := B.exec
  have hb := B.bytes
  have hr := B.returns
  have hts := atoms_spec (ws := wsL_tryDisturb) B.pre
  have hown : s.vm.findClass RL = some m.cls := findClass_of_methodNamed B.named
  have htb : c.exceptionTable.toList = tableOf [(0, 5, 6, 13)] := vx_table (x := yL_tryDisturb) B (hts (.codeWith yL_tryDisturb cL_tryDisturb 3 (some .int) [(0, 5, 6, 13)]) (List.mem_cons_self))
  subst hsz
  have hD := hD0.self (sz := s.heap.size)
  generalize hAe : va_A w s.heap.size = A at hD hTY ⊢
  have hA : ∀ q : Nat, s.heap.size ≤ q → A q := fun q h => by rw [← hAe]; exact Or.inr h
  have hS : va_S A s.heap s.heap [] := va_S.rf
  obtain ⟨fs, he⟩ := ob_in hO
  have hl := lv_entry ([.ref h, .int a1]) (n := 3) (Nat.le_of_ble_eq_true rfl)
  rw [lg_entry_eq]
  generalize (lg_sl ([.ref h, .int a1]) ++ List.replicate (3 - (lg_sl ([.ref h, .int a1])).length) Slot.unset).toArray = ls at hl ⊢
  have hl : lv_has ls 3 [(0, .ref h), (1, .int a1)] := hl
  obtain ⟨QQ, hQQ⟩ : ∃ zq9, zq9 = vx_MQ below (QO G (qDist a1 z) (fun w9 => ((s_X11_disturb_k a1) = 0 ∧ OB y h T (s_X11_disturb_z a1 z) (hpu z Hs) s0 s1 w9) ∨ (¬ (s_X11_disturb_k a1) = 0 ∧ OB y h T z Hs s0 s1 w9)) A) XN ([.ref h, .int a1] : List Value).toArray s 1 6 A := ⟨_, rfl⟩
  rw [← hQQ]
  refine lv_aload_n hx hb dL_tryDisturb_0 rfl (lv_at hl 0 rfl) ?_
  refine lv_iload_n hx hb dL_tryDisturb_1 rfl (lv_at hl 1 rfl) ?_
  refine cl_XO (vx_runV (As := [.int a1]) (rest := []) ⟨hx, hb, hml, hown, hts⟩ (x_disturb l G y h a1 w T z Hs s0 s1 s.heap.size hO hz hfl) (cwV 1 hts gL_tryDisturb_X11_disturb rfl rfl rfl (by decide +kernel) ⟨Nat.le_of_ble_eq_true rfl, Nat.le_of_ble_eq_true rfl⟩) (PHX_O he hP hK hN hD hTY hS (F_0 hD hS hA)) rfl rfl hl.1 rfl (lv_room (Nat.le_of_ble_eq_true rfl)) dL_tryDisturb_2 ⟨Nat.le_of_ble_eq_true rfl, Nat.le_of_ble_eq_true rfl⟩) hD hS hA (fun E ce q9 w9 H locs hE hO9 hP hD hS hce hcv hcl => ?_) (fun w9 H locs hO9 hP hD hS => ?_)
  · rcases hE with ⟨rfl, hE⟩ | ⟨rfl, hE⟩ | ⟨rfl, hE⟩
    · refine vx_catch hown [] ⟨0, 5, 6, 13⟩ [] (htb.trans rfl) (fun z hz => by cases hz) (by decide) (by decide) (hts (.classLink RL 13 "java/lang/IllegalArgumentException") (by decide +kernel)) (va_Nw.use rfl (hTY.1.2.1 _ mIA)) hce hcv hcl ?_
      refine lv_astore_n (lv' := [(2, .ref q9), (0, .ref h), (1, .int a1)]) hx hb dL_tryDisturb_6 rfl hl (by decide) rfl (fun ls hl => ?_)
      refine lv_ldc (v := (-999002)) hx hb hown (hts (.constant RL 15 (-999002)) (by decide +kernel)) dL_tryDisturb_7 ?_
      rw [hQQ]
      refine vx_ret ?_
      exact W.iret hx hb hr (end_O (Or.inr ⟨fun q => absurd (hE.trans q) (by decide), hO9⟩) hP hD hS (an_1 hE)) hS.2.2 dL_tryDisturb_9
    · rcases (kx_disturb _) with k9 | k9
      · exact absurd (hE.trans k9) (by decide)
      · exact absurd (hE.trans k9) (by decide)
    · rcases (kx_disturb _) with k9 | k9
      · exact absurd (hE.trans k9) (by decide)
      · exact absurd (hE.trans k9) (by decide)
  · rw [hQQ]
    refine vx_ret ?_
    exact W.iret hx hb hr (end_O (Or.inl hO9) hP hD hS (an_0 hO9.1)) hS.2.2 dL_tryDisturb_5
theorem kx_discard (a1 : Int32) (z : Nat → Nat → Int32) : s_X11_discard_k a1 z = 0 ∨ s_X11_discard_k a1 z = 3 := by
  unfold s_X11_discard_k
  repeat' (first | refine k_ite (Q := (fun x : Int32 => x = 0 ∨ x = 3)) ?_ ?_ | exact (Or.inl rfl) | exact (Or.inr rfl))
abbrev rmL_tryDiscard : Room := ({ frames := 7, cells := 1, slots := 6, locals := 145 } : Room)
theorem w_discard (l : Launch) (G : va_G) (y : Nat → ClassId) (h : Nat) (a1 : Int32) (w : va_W) (T : List Int32) (z : Zs) (Hs : List Zs) (s0 s1 : Option Zs) (sz : Nat) (hO : OB y h T z Hs s0 s1 w) (hz : TS z) (hfl : l.stackTraces = false) : vx_Met l yL_tryDiscard wsL_tryDiscard rmL_tryDiscard (PHZ G y [.ref h, .int a1] w sz) (QO G (qDisc a1 z) (fun w9 => ((s_X11_discard_k a1 z) = 0 ∧ OB y h T (s_X11_discard_z a1 z) (hpu z Hs) s0 s1 w9) ∨ (¬ (s_X11_discard_k a1 z) = 0 ∧ OB y h T z Hs s0 s1 w9)) (va_A w sz)) XN 1 6 (va_A w sz) := by
  refine vx_ofWH (cc := cL_tryDiscard) (maxL := 3) (ret := (some .int)) (hh := [(0, 5, 6, 30)]) (by decide) rfl ?_
  intro p e s m args below meth c s₁ B hml hv
  obtain ⟨rfl, hsz, hP, ⟨hK, hN⟩, hD0, hTY⟩ := hv
  have hx := B.exec
  have hb := B.bytes
  have hr := B.returns
  have hts := atoms_spec (ws := wsL_tryDiscard) B.pre
  have hown : s.vm.findClass RL = some m.cls := findClass_of_methodNamed B.named
  have htb : c.exceptionTable.toList = tableOf [(0, 5, 6, 30)] := vx_table (x := yL_tryDiscard) B (hts (.codeWith yL_tryDiscard cL_tryDiscard 3 (some .int) [(0, 5, 6, 30)]) (List.mem_cons_self))
  subst hsz
  have hD := hD0.self (sz := s.heap.size)
  generalize hAe : va_A w s.heap.size = A at hD hTY ⊢
  have hA : ∀ q : Nat, s.heap.size ≤ q → A q := fun q h => by rw [← hAe]; exact Or.inr h
  have hS : va_S A s.heap s.heap [] := va_S.rf
  obtain ⟨fs, he⟩ := ob_in hO
  have hl := lv_entry ([.ref h, .int a1]) (n := 3) (Nat.le_of_ble_eq_true rfl)
  rw [lg_entry_eq]
  generalize (lg_sl ([.ref h, .int a1]) ++ List.replicate (3 - (lg_sl ([.ref h, .int a1])).length) Slot.unset).toArray = ls at hl ⊢
  have hl : lv_has ls 3 [(0, .ref h), (1, .int a1)] := hl
  obtain ⟨QQ, hQQ⟩ : ∃ zq9, zq9 = vx_MQ below (QO G (qDisc a1 z) (fun w9 => ((s_X11_discard_k a1 z) = 0 ∧ OB y h T (s_X11_discard_z a1 z) (hpu z Hs) s0 s1 w9) ∨ (¬ (s_X11_discard_k a1 z) = 0 ∧ OB y h T z Hs s0 s1 w9)) A) XN ([.ref h, .int a1] : List Value).toArray s 1 6 A := ⟨_, rfl⟩
  rw [← hQQ]
  refine lv_aload_n hx hb dL_tryDiscard_0 rfl (lv_at hl 0 rfl) ?_
  refine lv_iload_n hx hb dL_tryDiscard_1 rfl (lv_at hl 1 rfl) ?_
  refine cl_XO (vx_runV (As := [.int a1]) (rest := []) ⟨hx, hb, hml, hown, hts⟩ (x_discard l G y h a1 w T z Hs s0 s1 s.heap.size hO hz hfl) (cwV 1 hts gL_tryDiscard_X11_discard rfl rfl rfl (by decide +kernel) ⟨Nat.le_of_ble_eq_true rfl, Nat.le_of_ble_eq_true rfl⟩) (PHX_O he hP hK hN hD hTY hS (F_0 hD hS hA)) rfl rfl hl.1 rfl (lv_room (Nat.le_of_ble_eq_true rfl)) dL_tryDiscard_2 ⟨Nat.le_of_ble_eq_true rfl, Nat.le_of_ble_eq_true rfl⟩) hD hS hA (fun E ce q9 w9 H locs hE hO9 hP hD hS hce hcv hcl => ?_) (fun w9 H locs hO9 hP hD hS => ?_)
  · rcases hE with ⟨rfl, hE⟩ | ⟨rfl, hE⟩ | ⟨rfl, hE⟩
    · rcases (kx_discard _ _) with k9 | k9
      · exact absurd (hE.trans k9) (by decide)
      · exact absurd (hE.trans k9) (by decide)
    · rcases (kx_discard _ _) with k9 | k9
      · exact absurd (hE.trans k9) (by decide)
      · exact absurd (hE.trans k9) (by decide)
    · refine vx_catch hown [] ⟨0, 5, 6, 30⟩ [] (htb.trans rfl) (fun z hz => by cases hz) (by decide) (by decide) (hts (.classLink RL 30 "java/lang/IndexOutOfBoundsException") (by decide +kernel)) (va_Nw.use rfl (hTY.1.2.1 _ mIO)) hce hcv hcl ?_
      refine lv_astore_n (lv' := [(2, .ref q9), (0, .ref h), (1, .int a1)]) hx hb dL_tryDiscard_6 rfl hl (by decide) rfl (fun ls hl => ?_)
      refine lv_ldc (v := (-999001)) hx hb hown (hts (.constant RL 32 (-999001)) (by decide +kernel)) dL_tryDiscard_7 ?_
      rw [hQQ]
      refine vx_ret ?_
      exact W.iret hx hb hr (end_O (Or.inr ⟨fun q => absurd (hE.trans q) (by decide), hO9⟩) hP hD hS (an_3 hE)) hS.2.2 dL_tryDiscard_9
  · rw [hQQ]
    refine vx_ret ?_
    exact W.iret hx hb hr (end_O (Or.inl hO9) hP hD hS (an_0 hO9.1)) hS.2.2 dL_tryDiscard_5
theorem kx_tryRule (a1 : Int32) (z : Nat → Nat → Int32) : s_X11_tryRule_k a1 z = 0 ∨ s_X11_tryRule_k a1 z = 2 ∨ s_X11_tryRule_k a1 z = 3 := by
  unfold s_X11_tryRule_k
  repeat' (first | refine k_ite (Q := (fun x : Int32 => x = 0 ∨ x = 2 ∨ x = 3)) ?_ ?_ | exact (Or.inl rfl) | exact (Or.inr (Or.inl rfl)) | exact (Or.inr (Or.inr rfl)))
abbrev rmL_tryRule : Room := ({ frames := 7, cells := 1, slots := 6, locals := 164 } : Room)
theorem w_tryRule (l : Launch) (G : va_G) (y : Nat → ClassId) (h : Nat) (a1 : Int32) (w : va_W) (T : List Int32) (z : Zs) (Hs : List Zs) (s0 s1 : Option Zs) (sz : Nat) (hO : OB y h T z Hs s0 s1 w) (hz : TS z) (hfl : l.stackTraces = false) : vx_Met l yL_tryRule wsL_tryRule rmL_tryRule (PHZ G y [.ref h, .int a1] w sz) (QO G (qRule a1 z) (fun w9 => ((s_X11_tryRule_k a1 z) = 0 ∧ OB y h T (s_X11_tryRule_z a1 z) (hpu z Hs) s0 s1 w9) ∨ (¬ (s_X11_tryRule_k a1 z) = 0 ∧ OB y h T z Hs s0 s1 w9)) (va_A w sz)) XN 1 6 (va_A w sz) := by
  refine vx_ofWH (cc := cL_tryRule) (maxL := 3) (ret := (some .int)) (hh := [(0, 5, 6, 30), (0, 5, 10, 16)]) (by decide) rfl ?_
  intro p e s m args below meth c s₁ B hml hv
  obtain ⟨rfl, hsz, hP, ⟨hK, hN⟩, hD0, hTY⟩ := hv
  have hx := B.exec
  have hb := B.bytes
  have hr := B.returns
  have hts := atoms_spec (ws := wsL_tryRule) B.pre
  have hown : s.vm.findClass RL = some m.cls := findClass_of_methodNamed B.named
  have htb : c.exceptionTable.toList = tableOf [(0, 5, 6, 30), (0, 5, 10, 16)] := vx_table (x := yL_tryRule) B (hts (.codeWith yL_tryRule cL_tryRule 3 (some .int) [(0, 5, 6, 30), (0, 5, 10, 16)]) (List.mem_cons_self))
  subst hsz
  have hD := hD0.self (sz := s.heap.size)
  generalize hAe : va_A w s.heap.size = A at hD hTY ⊢
  have hA : ∀ q : Nat, s.heap.size ≤ q → A q := fun q h => by rw [← hAe]; exact Or.inr h
  have hS : va_S A s.heap s.heap [] := va_S.rf
  obtain ⟨fs, he⟩ := ob_in hO
  have hl := lv_entry ([.ref h, .int a1]) (n := 3) (Nat.le_of_ble_eq_true rfl)
  rw [lg_entry_eq]
  generalize (lg_sl ([.ref h, .int a1]) ++ List.replicate (3 - (lg_sl ([.ref h, .int a1])).length) Slot.unset).toArray = ls at hl ⊢
  have hl : lv_has ls 3 [(0, .ref h), (1, .int a1)] := hl
  obtain ⟨QQ, hQQ⟩ : ∃ zq9, zq9 = vx_MQ below (QO G (qRule a1 z) (fun w9 => ((s_X11_tryRule_k a1 z) = 0 ∧ OB y h T (s_X11_tryRule_z a1 z) (hpu z Hs) s0 s1 w9) ∨ (¬ (s_X11_tryRule_k a1 z) = 0 ∧ OB y h T z Hs s0 s1 w9)) A) XN ([.ref h, .int a1] : List Value).toArray s 1 6 A := ⟨_, rfl⟩
  rw [← hQQ]
  refine lv_aload_n hx hb dL_tryRule_0 rfl (lv_at hl 0 rfl) ?_
  refine lv_iload_n hx hb dL_tryRule_1 rfl (lv_at hl 1 rfl) ?_
  refine cl_XO (vx_runV (As := [.int a1]) (rest := []) ⟨hx, hb, hml, hown, hts⟩ (x_tryRule l G y h a1 w T z Hs s0 s1 s.heap.size hO hz hfl) (cwV 1 hts gL_tryRule_X11_tryRule rfl rfl rfl (by decide +kernel) ⟨Nat.le_of_ble_eq_true rfl, Nat.le_of_ble_eq_true rfl⟩) (PHX_O he hP hK hN hD hTY hS (F_0 hD hS hA)) rfl rfl hl.1 rfl (lv_room (Nat.le_of_ble_eq_true rfl)) dL_tryRule_2 ⟨Nat.le_of_ble_eq_true rfl, Nat.le_of_ble_eq_true rfl⟩) hD hS hA (fun E ce q9 w9 H locs hE hO9 hP hD hS hce hcv hcl => ?_) (fun w9 H locs hO9 hP hD hS => ?_)
  · rcases hE with ⟨rfl, hE⟩ | ⟨rfl, hE⟩ | ⟨rfl, hE⟩
    · rcases (kx_tryRule _ _) with k9 | k9 | k9
      · exact absurd (hE.trans k9) (by decide)
      · exact absurd (hE.trans k9) (by decide)
      · exact absurd (hE.trans k9) (by decide)
    · refine vx_catch hown [⟨0, 5, 6, 30⟩] ⟨0, 5, 10, 16⟩ [] (htb.trans rfl) (fun z hz => by rcases List.mem_singleton.mp hz with rfl; exact Or.inr ⟨by decide, "java/lang/IndexOutOfBoundsException", hts (.classLink RL 30 "java/lang/IndexOutOfBoundsException") (by decide +kernel), hTY.2 _ mSO⟩) (by decide) (by decide) (hts (.classLink RL 16 "java/lang/IllegalStateException") (by decide +kernel)) (va_Nw.use rfl (hTY.1.2.1 _ mIS)) hce hcv hcl ?_
      refine lv_astore_n (lv' := [(2, .ref q9), (0, .ref h), (1, .int a1)]) hx hb dL_tryRule_10 rfl hl (by decide) rfl (fun ls hl => ?_)
      refine lv_ldc (v := (-999003)) hx hb hown (hts (.constant RL 18 (-999003)) (by decide +kernel)) dL_tryRule_11 ?_
      rw [hQQ]
      refine vx_ret ?_
      exact W.iret hx hb hr (end_O (Or.inr ⟨fun q => absurd (hE.trans q) (by decide), hO9⟩) hP hD hS (an_2 hE)) hS.2.2 dL_tryRule_13
    · refine vx_catch hown [] ⟨0, 5, 6, 30⟩ [⟨0, 5, 10, 16⟩] (htb.trans rfl) (fun z hz => by cases hz) (by decide) (by decide) (hts (.classLink RL 30 "java/lang/IndexOutOfBoundsException") (by decide +kernel)) (va_Nw.use rfl (hTY.1.2.1 _ mIO)) hce hcv hcl ?_
      refine lv_astore_n (lv' := [(2, .ref q9), (0, .ref h), (1, .int a1)]) hx hb dL_tryRule_6 rfl hl (by decide) rfl (fun ls hl => ?_)
      refine lv_ldc (v := (-999001)) hx hb hown (hts (.constant RL 32 (-999001)) (by decide +kernel)) dL_tryRule_7 ?_
      rw [hQQ]
      refine vx_ret ?_
      exact W.iret hx hb hr (end_O (Or.inr ⟨fun q => absurd (hE.trans q) (by decide), hO9⟩) hP hD hS (an_3 hE)) hS.2.2 dL_tryRule_9
  · rw [hQQ]
    refine vx_ret ?_
    exact W.iret hx hb hr (end_O (Or.inl hO9) hP hD hS (an_0 hO9.1)) hS.2.2 dL_tryRule_5
theorem kx_takeBack (z : Nat → Nat → Int32) : s_X11_takeBack_k z = 0 ∨ s_X11_takeBack_k z = 2 := by
  unfold s_X11_takeBack_k
  repeat' (first | refine k_ite (Q := (fun x : Int32 => x = 0 ∨ x = 2)) ?_ ?_ | exact (Or.inl rfl) | exact (Or.inr rfl))
abbrev rmL_tryTakeBack : Room := ({ frames := 7, cells := 1, slots := 6, locals := 143 } : Room)
theorem w_takeBack (l : Launch) (G : va_G) (y : Nat → ClassId) (h : Nat)  (w : va_W) (T : List Int32) (z : Zs) (Hs : List Zs) (s0 s1 : Option Zs) (sz : Nat) (hO : OB y h T z Hs s0 s1 w) (hz : TS z) (hfl : l.stackTraces = false) : vx_Met l yL_tryTakeBack wsL_tryTakeBack rmL_tryTakeBack (PHZ G y [.ref h] w sz) (QO G (qTake z) (fun w9 => ((s_X11_takeBack_k z) = 0 ∧ OB y h T (s_X11_takeBack_z z) (hpu z Hs) s0 s1 w9) ∨ (¬ (s_X11_takeBack_k z) = 0 ∧ OB y h T z Hs s0 s1 w9)) (va_A w sz)) XN 1 6 (va_A w sz) := by
  refine vx_ofWH (cc := cL_tryTakeBack) (maxL := 2) (ret := (some .int)) (hh := [(0, 4, 5, 16)]) (by decide) rfl ?_
  intro p e s m args below meth c s₁ B hml hv
  obtain ⟨rfl, hsz, hP, ⟨hK, hN⟩, hD0, hTY⟩ := hv
  have hx := B.exec
  have hb := B.bytes
  have hr := B.returns
  have hts := atoms_spec (ws := wsL_tryTakeBack) B.pre
  have hown : s.vm.findClass RL = some m.cls := findClass_of_methodNamed B.named
  have htb : c.exceptionTable.toList = tableOf [(0, 4, 5, 16)] := vx_table (x := yL_tryTakeBack) B (hts (.codeWith yL_tryTakeBack cL_tryTakeBack 2 (some .int) [(0, 4, 5, 16)]) (List.mem_cons_self))
  subst hsz
  have hD := hD0.self (sz := s.heap.size)
  generalize hAe : va_A w s.heap.size = A at hD hTY ⊢
  have hA : ∀ q : Nat, s.heap.size ≤ q → A q := fun q h => by rw [← hAe]; exact Or.inr h
  have hS : va_S A s.heap s.heap [] := va_S.rf
  obtain ⟨fs, he⟩ := ob_in hO
  have hl := lv_entry ([.ref h]) (n := 2) (Nat.le_of_ble_eq_true rfl)
  rw [lg_entry_eq]
  generalize (lg_sl ([.ref h]) ++ List.replicate (2 - (lg_sl ([.ref h])).length) Slot.unset).toArray = ls at hl ⊢
  have hl : lv_has ls 2 [(0, .ref h)] := hl
  obtain ⟨QQ, hQQ⟩ : ∃ zq9, zq9 = vx_MQ below (QO G (qTake z) (fun w9 => ((s_X11_takeBack_k z) = 0 ∧ OB y h T (s_X11_takeBack_z z) (hpu z Hs) s0 s1 w9) ∨ (¬ (s_X11_takeBack_k z) = 0 ∧ OB y h T z Hs s0 s1 w9)) A) XN ([.ref h] : List Value).toArray s 1 6 A := ⟨_, rfl⟩
  rw [← hQQ]
  refine lv_aload_n hx hb dL_tryTakeBack_0 rfl (lv_at hl 0 rfl) ?_
  refine cl_XO (vx_runV (As := []) (rest := []) ⟨hx, hb, hml, hown, hts⟩ (x_takeBack l G y h  w T z Hs s0 s1 s.heap.size hO hz hfl) (cwV 0 hts gL_tryTakeBack_X11_takeBack rfl rfl rfl (by decide +kernel) ⟨Nat.le_of_ble_eq_true rfl, Nat.le_of_ble_eq_true rfl⟩) (PHX_O he hP hK hN hD hTY hS (F_0 hD hS hA)) rfl rfl hl.1 rfl (lv_room (Nat.le_of_ble_eq_true rfl)) dL_tryTakeBack_1 ⟨Nat.le_of_ble_eq_true rfl, Nat.le_of_ble_eq_true rfl⟩) hD hS hA (fun E ce q9 w9 H locs hE hO9 hP hD hS hce hcv hcl => ?_) (fun w9 H locs hO9 hP hD hS => ?_)
  · rcases hE with ⟨rfl, hE⟩ | ⟨rfl, hE⟩ | ⟨rfl, hE⟩
    · rcases (kx_takeBack _) with k9 | k9
      · exact absurd (hE.trans k9) (by decide)
      · exact absurd (hE.trans k9) (by decide)
    · refine vx_catch hown [] ⟨0, 4, 5, 16⟩ [] (htb.trans rfl) (fun z hz => by cases hz) (by decide) (by decide) (hts (.classLink RL 16 "java/lang/IllegalStateException") (by decide +kernel)) (va_Nw.use rfl (hTY.1.2.1 _ mIS)) hce hcv hcl ?_
      refine lv_astore_n (lv' := [(1, .ref q9), (0, .ref h)]) hx hb dL_tryTakeBack_5 rfl hl (by decide) rfl (fun ls hl => ?_)
      refine lv_ldc (v := (-999003)) hx hb hown (hts (.constant RL 18 (-999003)) (by decide +kernel)) dL_tryTakeBack_6 ?_
      rw [hQQ]
      refine vx_ret ?_
      exact W.iret hx hb hr (end_O (Or.inr ⟨fun q => absurd (hE.trans q) (by decide), hO9⟩) hP hD hS (an_2 hE)) hS.2.2 dL_tryTakeBack_8
    · rcases (kx_takeBack _) with k9 | k9
      · exact absurd (hE.trans k9) (by decide)
      · exact absurd (hE.trans k9) (by decide)
  · rw [hQQ]
    refine vx_ret ?_
    exact W.iret hx hb hr (end_O (Or.inl hO9) hP hD hS (an_0 hO9.1)) hS.2.2 dL_tryTakeBack_4
theorem kx_undo (Hs : List Zs) : kUnd Hs = 0 ∨ kUnd Hs = 2 := by
  unfold kUnd
  repeat' (first | refine k_ite (Q := (fun x : Int32 => x = 0 ∨ x = 2)) ?_ ?_ | exact (Or.inl rfl) | exact (Or.inr rfl))
abbrev rmL_tryUndo : Room := ({ frames := 7, cells := 1, slots := 6, locals := 143 } : Room)
theorem w_undo (l : Launch) (G : va_G) (y : Nat → ClassId) (h : Nat)  (w : va_W) (T : List Int32) (z : Zs) (Hs : List Zs) (s0 s1 : Option Zs) (sz : Nat) (hO : OB y h T z Hs s0 s1 w) (hz : TS z) (hfl : l.stackTraces = false) : vx_Met l yL_tryUndo wsL_tryUndo rmL_tryUndo (PHZ G y [.ref h] w sz) (QO G (qUndo Hs) (fun w9 => ((kUnd Hs) = 0 ∧ OB y h T (Hs.getD 0 zI) Hs.tail s0 s1 w9) ∨ (¬ (kUnd Hs) = 0 ∧ OB y h T z Hs s0 s1 w9)) (va_A w sz)) XN 1 6 (va_A w sz) := by
  refine vx_ofWH (cc := cL_tryUndo) (maxL := 2) (ret := (some .int)) (hh := [(0, 4, 5, 16)]) (by decide) rfl ?_
  intro p e s m args below meth c s₁ B hml hv
  obtain ⟨rfl, hsz, hP, ⟨hK, hN⟩, hD0, hTY⟩ := hv
  have hx := B.exec
  have hb := B.bytes
  have hr := B.returns
  have hts := atoms_spec (ws := wsL_tryUndo) B.pre
  have hown : s.vm.findClass RL = some m.cls := findClass_of_methodNamed B.named
  have htb : c.exceptionTable.toList = tableOf [(0, 4, 5, 16)] := vx_table (x := yL_tryUndo) B (hts (.codeWith yL_tryUndo cL_tryUndo 2 (some .int) [(0, 4, 5, 16)]) (List.mem_cons_self))
  subst hsz
  have hD := hD0.self (sz := s.heap.size)
  generalize hAe : va_A w s.heap.size = A at hD hTY ⊢
  have hA : ∀ q : Nat, s.heap.size ≤ q → A q := fun q h => by rw [← hAe]; exact Or.inr h
  have hS : va_S A s.heap s.heap [] := va_S.rf
  obtain ⟨fs, he⟩ := ob_in hO
  have hl := lv_entry ([.ref h]) (n := 2) (Nat.le_of_ble_eq_true rfl)
  rw [lg_entry_eq]
  generalize (lg_sl ([.ref h]) ++ List.replicate (2 - (lg_sl ([.ref h])).length) Slot.unset).toArray = ls at hl ⊢
  have hl : lv_has ls 2 [(0, .ref h)] := hl
  obtain ⟨QQ, hQQ⟩ : ∃ zq9, zq9 = vx_MQ below (QO G (qUndo Hs) (fun w9 => ((kUnd Hs) = 0 ∧ OB y h T (Hs.getD 0 zI) Hs.tail s0 s1 w9) ∨ (¬ (kUnd Hs) = 0 ∧ OB y h T z Hs s0 s1 w9)) A) XN ([.ref h] : List Value).toArray s 1 6 A := ⟨_, rfl⟩
  rw [← hQQ]
  refine lv_aload_n hx hb dL_tryUndo_0 rfl (lv_at hl 0 rfl) ?_
  refine cl_XO (vx_runV (As := []) (rest := []) ⟨hx, hb, hml, hown, hts⟩ (x_undo l G y h  w T z Hs s0 s1 s.heap.size hO hz hfl) (cwV 0 hts gL_tryUndo_X11_undo rfl rfl rfl (by decide +kernel) ⟨Nat.le_of_ble_eq_true rfl, Nat.le_of_ble_eq_true rfl⟩) (PHX_O he hP hK hN hD hTY hS (F_0 hD hS hA)) rfl rfl hl.1 rfl (lv_room (Nat.le_of_ble_eq_true rfl)) dL_tryUndo_1 ⟨Nat.le_of_ble_eq_true rfl, Nat.le_of_ble_eq_true rfl⟩) hD hS hA (fun E ce q9 w9 H locs hE hO9 hP hD hS hce hcv hcl => ?_) (fun w9 H locs hO9 hP hD hS => ?_)
  · rcases hE with ⟨rfl, hE⟩ | ⟨rfl, hE⟩ | ⟨rfl, hE⟩
    · rcases (kx_undo _) with k9 | k9
      · exact absurd (hE.trans k9) (by decide)
      · exact absurd (hE.trans k9) (by decide)
    · refine vx_catch hown [] ⟨0, 4, 5, 16⟩ [] (htb.trans rfl) (fun z hz => by cases hz) (by decide) (by decide) (hts (.classLink RL 16 "java/lang/IllegalStateException") (by decide +kernel)) (va_Nw.use rfl (hTY.1.2.1 _ mIS)) hce hcv hcl ?_
      refine lv_astore_n (lv' := [(1, .ref q9), (0, .ref h)]) hx hb dL_tryUndo_5 rfl hl (by decide) rfl (fun ls hl => ?_)
      refine lv_ldc (v := (-999003)) hx hb hown (hts (.constant RL 18 (-999003)) (by decide +kernel)) dL_tryUndo_6 ?_
      rw [hQQ]
      refine vx_ret ?_
      exact W.iret hx hb hr (end_O (Or.inr ⟨fun q => absurd (hE.trans q) (by decide), hO9⟩) hP hD hS (an_2 hE)) hS.2.2 dL_tryUndo_8
    · rcases (kx_undo _) with k9 | k9
      · exact absurd (hE.trans k9) (by decide)
      · exact absurd (hE.trans k9) (by decide)
  · rw [hQQ]
    refine vx_ret ?_
    exact W.iret hx hb hr (end_O (Or.inl hO9) hP hD hS (an_0 hO9.1)) hS.2.2 dL_tryUndo_4
theorem kx_save (a1 : Int32) : s_X11_save_k a1 = 0 ∨ s_X11_save_k a1 = 3 := by
  unfold s_X11_save_k
  repeat' (first | refine k_ite (Q := (fun x : Int32 => x = 0 ∨ x = 3)) ?_ ?_ | exact (Or.inl rfl) | exact (Or.inr rfl))
abbrev rmL_trySave : Room := ({ frames := 7, cells := 1, slots := 6, locals := 145 } : Room)
theorem w_save (l : Launch) (G : va_G) (y : Nat → ClassId) (h : Nat) (a1 : Int32) (w : va_W) (T : List Int32) (z : Zs) (Hs : List Zs) (s0 s1 : Option Zs) (sz : Nat) (hO : OB y h T z Hs s0 s1 w) (hz : TS z) (hfl : l.stackTraces = false) : vx_Met l yL_trySave wsL_trySave rmL_trySave (PHZ G y [.ref h, .int a1] w sz) (QO G (qSave a1 z) (fun w9 => ((s_X11_save_k a1) = 0 ∧ OB y h T z Hs (if a1 = 0 then some z else s0) (if a1 = 0 then s1 else some z) w9) ∨ (¬ (s_X11_save_k a1) = 0 ∧ OB y h T z Hs s0 s1 w9)) (va_A w sz)) XN 1 6 (va_A w sz) := by
  refine vx_ofWH (cc := cL_trySave) (maxL := 3) (ret := (some .int)) (hh := [(0, 5, 6, 30)]) (by decide) rfl ?_
  intro p e s m args below meth c s₁ B hml hv
  obtain ⟨rfl, hsz, hP, ⟨hK, hN⟩, hD0, hTY⟩ := hv
  have hx := B.exec
  have hb := B.bytes
  have hr := B.returns
  have hts := atoms_spec (ws := wsL_trySave) B.pre
  have hown : s.vm.findClass RL = some m.cls := findClass_of_methodNamed B.named
  have htb : c.exceptionTable.toList = tableOf [(0, 5, 6, 30)] := vx_table (x := yL_trySave) B (hts (.codeWith yL_trySave cL_trySave 3 (some .int) [(0, 5, 6, 30)]) (List.mem_cons_self))
  subst hsz
  have hD := hD0.self (sz := s.heap.size)
  generalize hAe : va_A w s.heap.size = A at hD hTY ⊢
  have hA : ∀ q : Nat, s.heap.size ≤ q → A q := fun q h => by rw [← hAe]; exact Or.inr h
  have hS : va_S A s.heap s.heap [] := va_S.rf
  obtain ⟨fs, he⟩ := ob_in hO
  have hl := lv_entry ([.ref h, .int a1]) (n := 3) (Nat.le_of_ble_eq_true rfl)
  rw [lg_entry_eq]
  generalize (lg_sl ([.ref h, .int a1]) ++ List.replicate (3 - (lg_sl ([.ref h, .int a1])).length) Slot.unset).toArray = ls at hl ⊢
  have hl : lv_has ls 3 [(0, .ref h), (1, .int a1)] := hl
  obtain ⟨QQ, hQQ⟩ : ∃ zq9, zq9 = vx_MQ below (QO G (qSave a1 z) (fun w9 => ((s_X11_save_k a1) = 0 ∧ OB y h T z Hs (if a1 = 0 then some z else s0) (if a1 = 0 then s1 else some z) w9) ∨ (¬ (s_X11_save_k a1) = 0 ∧ OB y h T z Hs s0 s1 w9)) A) XN ([.ref h, .int a1] : List Value).toArray s 1 6 A := ⟨_, rfl⟩
  rw [← hQQ]
  refine lv_aload_n hx hb dL_trySave_0 rfl (lv_at hl 0 rfl) ?_
  refine lv_iload_n hx hb dL_trySave_1 rfl (lv_at hl 1 rfl) ?_
  refine cl_XO (vx_runV (As := [.int a1]) (rest := []) ⟨hx, hb, hml, hown, hts⟩ (x_save l G y h a1 w T z Hs s0 s1 s.heap.size hO hz hfl) (cwV 1 hts gL_trySave_X11_save rfl rfl rfl (by decide +kernel) ⟨Nat.le_of_ble_eq_true rfl, Nat.le_of_ble_eq_true rfl⟩) (PHX_O he hP hK hN hD hTY hS (F_0 hD hS hA)) rfl rfl hl.1 rfl (lv_room (Nat.le_of_ble_eq_true rfl)) dL_trySave_2 ⟨Nat.le_of_ble_eq_true rfl, Nat.le_of_ble_eq_true rfl⟩) hD hS hA (fun E ce q9 w9 H locs hE hO9 hP hD hS hce hcv hcl => ?_) (fun w9 H locs hO9 hP hD hS => ?_)
  · rcases hE with ⟨rfl, hE⟩ | ⟨rfl, hE⟩ | ⟨rfl, hE⟩
    · rcases (kx_save _) with k9 | k9
      · exact absurd (hE.trans k9) (by decide)
      · exact absurd (hE.trans k9) (by decide)
    · rcases (kx_save _) with k9 | k9
      · exact absurd (hE.trans k9) (by decide)
      · exact absurd (hE.trans k9) (by decide)
    · refine vx_catch hown [] ⟨0, 5, 6, 30⟩ [] (htb.trans rfl) (fun z hz => by cases hz) (by decide) (by decide) (hts (.classLink RL 30 "java/lang/IndexOutOfBoundsException") (by decide +kernel)) (va_Nw.use rfl (hTY.1.2.1 _ mIO)) hce hcv hcl ?_
      refine lv_astore_n (lv' := [(2, .ref q9), (0, .ref h), (1, .int a1)]) hx hb dL_trySave_6 rfl hl (by decide) rfl (fun ls hl => ?_)
      refine lv_ldc (v := (-999001)) hx hb hown (hts (.constant RL 32 (-999001)) (by decide +kernel)) dL_trySave_7 ?_
      rw [hQQ]
      refine vx_ret ?_
      exact W.iret hx hb hr (end_O (Or.inr ⟨fun q => absurd (hE.trans q) (by decide), hO9⟩) hP hD hS (an_3 hE)) hS.2.2 dL_trySave_9
  · rw [hQQ]
    refine vx_ret ?_
    exact W.iret hx hb hr (end_O (Or.inl hO9) hP hD hS (an_0 hO9.1)) hS.2.2 dL_trySave_5
theorem kx_restore (a : Int32) (s0 : Option Zs) (s1 : Option Zs) : kRes a s0 s1 = 0 ∨ kRes a s0 s1 = 2 ∨ kRes a s0 s1 = 3 := by
  unfold kRes
  repeat' (first | refine k_ite (Q := (fun x : Int32 => x = 0 ∨ x = 2 ∨ x = 3)) ?_ ?_ | exact (Or.inl rfl) | exact (Or.inr (Or.inl rfl)) | exact (Or.inr (Or.inr rfl)))
abbrev rmL_tryRestore : Room := ({ frames := 7, cells := 1, slots := 6, locals := 145 } : Room)
theorem w_restore (l : Launch) (G : va_G) (y : Nat → ClassId) (h : Nat) (a1 : Int32) (w : va_W) (T : List Int32) (z : Zs) (Hs : List Zs) (s0 s1 : Option Zs) (sz : Nat) (hO : OB y h T z Hs s0 s1 w) (hz : TS z) (hfl : l.stackTraces = false) : vx_Met l yL_tryRestore wsL_tryRestore rmL_tryRestore (PHZ G y [.ref h, .int a1] w sz) (QO G (qRest a1 s0 s1) (fun w9 => ((kRes a1 s0 s1) = 0 ∧ OB y h T ((sl a1 s0 s1).getD zI) [] s0 s1 w9) ∨ (¬ (kRes a1 s0 s1) = 0 ∧ OB y h T z Hs s0 s1 w9)) (va_A w sz)) XN 1 6 (va_A w sz) := by
  refine vx_ofWH (cc := cL_tryRestore) (maxL := 3) (ret := (some .int)) (hh := [(0, 5, 6, 30), (0, 5, 10, 16)]) (by decide) rfl ?_
  intro p e s m args below meth c s₁ B hml hv
  obtain ⟨rfl, hsz, hP, ⟨hK, hN⟩, hD0, hTY⟩ := hv
  have hx := B.exec
  have hb := B.bytes
  have hr := B.returns
  have hts := atoms_spec (ws := wsL_tryRestore) B.pre
  have hown : s.vm.findClass RL = some m.cls := findClass_of_methodNamed B.named
  have htb : c.exceptionTable.toList = tableOf [(0, 5, 6, 30), (0, 5, 10, 16)] := vx_table (x := yL_tryRestore) B (hts (.codeWith yL_tryRestore cL_tryRestore 3 (some .int) [(0, 5, 6, 30), (0, 5, 10, 16)]) (List.mem_cons_self))
  subst hsz
  have hD := hD0.self (sz := s.heap.size)
  generalize hAe : va_A w s.heap.size = A at hD hTY ⊢
  have hA : ∀ q : Nat, s.heap.size ≤ q → A q := fun q h => by rw [← hAe]; exact Or.inr h
  have hS : va_S A s.heap s.heap [] := va_S.rf
  obtain ⟨fs, he⟩ := ob_in hO
  have hl := lv_entry ([.ref h, .int a1]) (n := 3) (Nat.le_of_ble_eq_true rfl)
  rw [lg_entry_eq]
  generalize (lg_sl ([.ref h, .int a1]) ++ List.replicate (3 - (lg_sl ([.ref h, .int a1])).length) Slot.unset).toArray = ls at hl ⊢
  have hl : lv_has ls 3 [(0, .ref h), (1, .int a1)] := hl
  obtain ⟨QQ, hQQ⟩ : ∃ zq9, zq9 = vx_MQ below (QO G (qRest a1 s0 s1) (fun w9 => ((kRes a1 s0 s1) = 0 ∧ OB y h T ((sl a1 s0 s1).getD zI) [] s0 s1 w9) ∨ (¬ (kRes a1 s0 s1) = 0 ∧ OB y h T z Hs s0 s1 w9)) A) XN ([.ref h, .int a1] : List Value).toArray s 1 6 A := ⟨_, rfl⟩
  rw [← hQQ]
  refine lv_aload_n hx hb dL_tryRestore_0 rfl (lv_at hl 0 rfl) ?_
  refine lv_iload_n hx hb dL_tryRestore_1 rfl (lv_at hl 1 rfl) ?_
  refine cl_XO (vx_runV (As := [.int a1]) (rest := []) ⟨hx, hb, hml, hown, hts⟩ (x_restore l G y h a1 w T z Hs s0 s1 s.heap.size hO hz hfl) (cwV 1 hts gL_tryRestore_X11_restore rfl rfl rfl (by decide +kernel) ⟨Nat.le_of_ble_eq_true rfl, Nat.le_of_ble_eq_true rfl⟩) (PHX_O he hP hK hN hD hTY hS (F_0 hD hS hA)) rfl rfl hl.1 rfl (lv_room (Nat.le_of_ble_eq_true rfl)) dL_tryRestore_2 ⟨Nat.le_of_ble_eq_true rfl, Nat.le_of_ble_eq_true rfl⟩) hD hS hA (fun E ce q9 w9 H locs hE hO9 hP hD hS hce hcv hcl => ?_) (fun w9 H locs hO9 hP hD hS => ?_)
  · rcases hE with ⟨rfl, hE⟩ | ⟨rfl, hE⟩ | ⟨rfl, hE⟩
    · rcases (kx_restore _ _ _) with k9 | k9 | k9
      · exact absurd (hE.trans k9) (by decide)
      · exact absurd (hE.trans k9) (by decide)
      · exact absurd (hE.trans k9) (by decide)
    · refine vx_catch hown [⟨0, 5, 6, 30⟩] ⟨0, 5, 10, 16⟩ [] (htb.trans rfl) (fun z hz => by rcases List.mem_singleton.mp hz with rfl; exact Or.inr ⟨by decide, "java/lang/IndexOutOfBoundsException", hts (.classLink RL 30 "java/lang/IndexOutOfBoundsException") (by decide +kernel), hTY.2 _ mSO⟩) (by decide) (by decide) (hts (.classLink RL 16 "java/lang/IllegalStateException") (by decide +kernel)) (va_Nw.use rfl (hTY.1.2.1 _ mIS)) hce hcv hcl ?_
      refine lv_astore_n (lv' := [(2, .ref q9), (0, .ref h), (1, .int a1)]) hx hb dL_tryRestore_10 rfl hl (by decide) rfl (fun ls hl => ?_)
      refine lv_ldc (v := (-999003)) hx hb hown (hts (.constant RL 18 (-999003)) (by decide +kernel)) dL_tryRestore_11 ?_
      rw [hQQ]
      refine vx_ret ?_
      exact W.iret hx hb hr (end_O (Or.inr ⟨fun q => absurd (hE.trans q) (by decide), hO9⟩) hP hD hS (an_2 hE)) hS.2.2 dL_tryRestore_13
    · refine vx_catch hown [] ⟨0, 5, 6, 30⟩ [⟨0, 5, 10, 16⟩] (htb.trans rfl) (fun z hz => by cases hz) (by decide) (by decide) (hts (.classLink RL 30 "java/lang/IndexOutOfBoundsException") (by decide +kernel)) (va_Nw.use rfl (hTY.1.2.1 _ mIO)) hce hcv hcl ?_
      refine lv_astore_n (lv' := [(2, .ref q9), (0, .ref h), (1, .int a1)]) hx hb dL_tryRestore_6 rfl hl (by decide) rfl (fun ls hl => ?_)
      refine lv_ldc (v := (-999001)) hx hb hown (hts (.constant RL 32 (-999001)) (by decide +kernel)) dL_tryRestore_7 ?_
      rw [hQQ]
      refine vx_ret ?_
      exact W.iret hx hb hr (end_O (Or.inr ⟨fun q => absurd (hE.trans q) (by decide), hO9⟩) hP hD hS (an_3 hE)) hS.2.2 dL_tryRestore_9
  · rw [hQQ]
    refine vx_ret ?_
    exact W.iret hx hb hr (end_O (Or.inl hO9) hP hD hS (an_0 hO9.1)) hS.2.2 dL_tryRestore_5
theorem kx_ahead (a1 : Int32) (a2 : Int32) : s_X11_ahead_k a1 a2 = 0 ∨ s_X11_ahead_k a1 a2 = 1 := by
  unfold s_X11_ahead_k
  repeat' (first | refine k_ite (Q := (fun x : Int32 => x = 0 ∨ x = 1)) ?_ ?_ | exact (Or.inl rfl) | exact (Or.inr rfl))
abbrev rmL_tryAhead : Room := ({ frames := 7, cells := 1, slots := 6, locals := 140 } : Room)
theorem w_ahead (l : Launch) (G : va_G) (y : Nat → ClassId) (h : Nat) (a1 : Int32) (a2 : Int32) (w : va_W) (T : List Int32) (z : Zs) (Hs : List Zs) (s0 s1 : Option Zs) (sz : Nat) (hO : OB y h T z Hs s0 s1 w) (hz : TS z) (hfl : l.stackTraces = false) : vx_Met l yL_tryAhead wsL_tryAhead rmL_tryAhead (PHZ G y [.ref h, .int a1, .int a2] w sz) (QO G (qAhead a1 a2 z) (fun w9 => OB y h T z Hs s0 s1 w9) (va_A w sz)) XN 1 6 (va_A w sz) := by
  refine vx_ofWH (cc := cL_tryAhead) (maxL := 4) (ret := (some .int)) (hh := [(0, 6, 7, 13)]) (by decide) rfl ?_
  intro p e s m args below meth c s₁ B hml hv
  obtain ⟨rfl, hsz, hP, ⟨hK, hN⟩, hD0, hTY⟩ := hv
  have hx := B.exec
  have hb := B.bytes
  have hr := B.returns
  have hts := atoms_spec (ws := wsL_tryAhead) B.pre
  have hown : s.vm.findClass RL = some m.cls := findClass_of_methodNamed B.named
  have htb : c.exceptionTable.toList = tableOf [(0, 6, 7, 13)] := vx_table (x := yL_tryAhead) B (hts (.codeWith yL_tryAhead cL_tryAhead 4 (some .int) [(0, 6, 7, 13)]) (List.mem_cons_self))
  subst hsz
  have hD := hD0.self (sz := s.heap.size)
  generalize hAe : va_A w s.heap.size = A at hD hTY ⊢
  have hA : ∀ q : Nat, s.heap.size ≤ q → A q := fun q h => by rw [← hAe]; exact Or.inr h
  have hS : va_S A s.heap s.heap [] := va_S.rf
  obtain ⟨fs, he⟩ := ob_in hO
  have hl := lv_entry ([.ref h, .int a1, .int a2]) (n := 4) (Nat.le_of_ble_eq_true rfl)
  rw [lg_entry_eq]
  generalize (lg_sl ([.ref h, .int a1, .int a2]) ++ List.replicate (4 - (lg_sl ([.ref h, .int a1, .int a2])).length) Slot.unset).toArray = ls at hl ⊢
  have hl : lv_has ls 4 [(0, .ref h), (1, .int a1), (2, .int a2)] := hl
  obtain ⟨QQ, hQQ⟩ : ∃ zq9, zq9 = vx_MQ below (QO G (qAhead a1 a2 z) (fun w9 => OB y h T z Hs s0 s1 w9) A) XN ([.ref h, .int a1, .int a2] : List Value).toArray s 1 6 A := ⟨_, rfl⟩
  rw [← hQQ]
  refine lv_aload_n hx hb dL_tryAhead_0 rfl (lv_at hl 0 rfl) ?_
  refine lv_iload_n hx hb dL_tryAhead_1 rfl (lv_at hl 1 rfl) ?_
  refine lv_iload_n hx hb dL_tryAhead_2 rfl (lv_at hl 2 rfl) ?_
  refine cl_XO (vx_runV (As := [.int a1, .int a2]) (rest := []) ⟨hx, hb, hml, hown, hts⟩ (x_ahead l G y h a1 a2 w T z Hs s0 s1 s.heap.size hO hz hfl) (cwV 2 hts gL_tryAhead_X11_ahead rfl rfl rfl (by decide +kernel) ⟨Nat.le_of_ble_eq_true rfl, Nat.le_of_ble_eq_true rfl⟩) (PHX_O he hP hK hN hD hTY hS (F_0 hD hS hA)) rfl rfl hl.1 rfl (lv_room (Nat.le_of_ble_eq_true rfl)) dL_tryAhead_3 ⟨Nat.le_of_ble_eq_true rfl, Nat.le_of_ble_eq_true rfl⟩) hD hS hA (fun E ce q9 w9 H locs hE hO9 hP hD hS hce hcv hcl => ?_) (fun w9 H locs hO9 hP hD hS => ?_)
  · rcases hE with ⟨rfl, hE⟩ | ⟨rfl, hE⟩ | ⟨rfl, hE⟩
    · refine vx_catch hown [] ⟨0, 6, 7, 13⟩ [] (htb.trans rfl) (fun z hz => by cases hz) (by decide) (by decide) (hts (.classLink RL 13 "java/lang/IllegalArgumentException") (by decide +kernel)) (va_Nw.use rfl (hTY.1.2.1 _ mIA)) hce hcv hcl ?_
      refine lv_astore_n (lv' := [(3, .ref q9), (0, .ref h), (1, .int a1), (2, .int a2)]) hx hb dL_tryAhead_7 rfl hl (by decide) rfl (fun ls hl => ?_)
      refine lv_ldc (v := (-999002)) hx hb hown (hts (.constant RL 15 (-999002)) (by decide +kernel)) dL_tryAhead_8 ?_
      rw [hQQ]
      refine vx_ret ?_
      exact W.iret hx hb hr (end_O hO9 hP hD hS (an_1 hE)) hS.2.2 dL_tryAhead_10
    · rcases (kx_ahead _ _) with k9 | k9
      · exact absurd (hE.trans k9) (by decide)
      · exact absurd (hE.trans k9) (by decide)
    · rcases (kx_ahead _ _) with k9 | k9
      · exact absurd (hE.trans k9) (by decide)
      · exact absurd (hE.trans k9) (by decide)
  · rw [hQQ]
    refine vx_ret ?_
    exact W.iret hx hb hr (end_O hO9.2 hP hD hS (an_0 hO9.1)) hS.2.2 dL_tryAhead_6
theorem kx_outcome (a1 : Int32) (a2 : Int32) (a3 : Int32) : s_X11_outcome_k a1 a2 a3 = 0 ∨ s_X11_outcome_k a1 a2 a3 = 1 ∨ s_X11_outcome_k a1 a2 a3 = 3 := by
  unfold s_X11_outcome_k
  repeat' (first | refine k_ite (Q := (fun x : Int32 => x = 0 ∨ x = 1 ∨ x = 3)) ?_ ?_ | exact (Or.inl rfl) | exact (Or.inr (Or.inl rfl)) | exact (Or.inr (Or.inr rfl)))
abbrev rmL_tryOutcome : Room := ({ frames := 7, cells := 1, slots := 6, locals := 168 } : Room)
theorem w_outcome (l : Launch) (G : va_G) (y : Nat → ClassId) (h : Nat) (a1 : Int32) (a2 : Int32) (a3 : Int32) (w : va_W) (T : List Int32) (z : Zs) (Hs : List Zs) (s0 s1 : Option Zs) (sz : Nat) (hO : OB y h T z Hs s0 s1 w) (hz : TS z) (hfl : l.stackTraces = false) : vx_Met l yL_tryOutcome wsL_tryOutcome rmL_tryOutcome (PHZ G y [.ref h, .int a1, .int a2, .int a3] w sz) (QO G (qOut a1 a2 a3 z) (fun w9 => OB y h T z Hs s0 s1 w9) (va_A w sz)) XN 1 6 (va_A w sz) := by
  refine vx_ofWH (cc := cL_tryOutcome) (maxL := 5) (ret := (some .int)) (hh := [(0, 7, 8, 30), (0, 7, 13, 13)]) (by decide) rfl ?_
  intro p e s m args below meth c s₁ B hml hv
  obtain ⟨rfl, hsz, hP, ⟨hK, hN⟩, hD0, hTY⟩ := hv
  have hx := B.exec
  have hb := B.bytes
  have hr := B.returns
  have hts := atoms_spec (ws := wsL_tryOutcome) B.pre
  have hown : s.vm.findClass RL = some m.cls := findClass_of_methodNamed B.named
  have htb : c.exceptionTable.toList = tableOf [(0, 7, 8, 30), (0, 7, 13, 13)] := vx_table (x := yL_tryOutcome) B (hts (.codeWith yL_tryOutcome cL_tryOutcome 5 (some .int) [(0, 7, 8, 30), (0, 7, 13, 13)]) (List.mem_cons_self))
  subst hsz
  have hD := hD0.self (sz := s.heap.size)
  generalize hAe : va_A w s.heap.size = A at hD hTY ⊢
  have hA : ∀ q : Nat, s.heap.size ≤ q → A q := fun q h => by rw [← hAe]; exact Or.inr h
  have hS : va_S A s.heap s.heap [] := va_S.rf
  obtain ⟨fs, he⟩ := ob_in hO
  have hl := lv_entry ([.ref h, .int a1, .int a2, .int a3]) (n := 5) (Nat.le_of_ble_eq_true rfl)
  rw [lg_entry_eq]
  generalize (lg_sl ([.ref h, .int a1, .int a2, .int a3]) ++ List.replicate (5 - (lg_sl ([.ref h, .int a1, .int a2, .int a3])).length) Slot.unset).toArray = ls at hl ⊢
  have hl : lv_has ls 5 [(0, .ref h), (1, .int a1), (2, .int a2), (3, .int a3)] := hl
  obtain ⟨QQ, hQQ⟩ : ∃ zq9, zq9 = vx_MQ below (QO G (qOut a1 a2 a3 z) (fun w9 => OB y h T z Hs s0 s1 w9) A) XN ([.ref h, .int a1, .int a2, .int a3] : List Value).toArray s 1 6 A := ⟨_, rfl⟩
  rw [← hQQ]
  refine lv_aload_n hx hb dL_tryOutcome_0 rfl (lv_at hl 0 rfl) ?_
  refine lv_iload_n hx hb dL_tryOutcome_1 rfl (lv_at hl 1 rfl) ?_
  refine lv_iload_n hx hb dL_tryOutcome_2 rfl (lv_at hl 2 rfl) ?_
  refine lv_iload_n hx hb dL_tryOutcome_3 rfl (lv_at hl 3 rfl) ?_
  refine cl_XO (vx_runV (As := [.int a1, .int a2, .int a3]) (rest := []) ⟨hx, hb, hml, hown, hts⟩ (x_outcome l G y h a1 a2 a3 w T z Hs s0 s1 s.heap.size hO hz hfl) (cwV 3 hts gL_tryOutcome_X11_outcome rfl rfl rfl (by decide +kernel) ⟨Nat.le_of_ble_eq_true rfl, Nat.le_of_ble_eq_true rfl⟩) (PHX_O he hP hK hN hD hTY hS (F_0 hD hS hA)) rfl rfl hl.1 rfl (lv_room (Nat.le_of_ble_eq_true rfl)) dL_tryOutcome_4 ⟨Nat.le_of_ble_eq_true rfl, Nat.le_of_ble_eq_true rfl⟩) hD hS hA (fun E ce q9 w9 H locs hE hO9 hP hD hS hce hcv hcl => ?_) (fun w9 H locs hO9 hP hD hS => ?_)
  · rcases hE with ⟨rfl, hE⟩ | ⟨rfl, hE⟩ | ⟨rfl, hE⟩
    · refine vx_catch hown [⟨0, 7, 8, 30⟩] ⟨0, 7, 13, 13⟩ [] (htb.trans rfl) (fun z hz => by rcases List.mem_singleton.mp hz with rfl; exact Or.inr ⟨by decide, "java/lang/IndexOutOfBoundsException", hts (.classLink RL 30 "java/lang/IndexOutOfBoundsException") (by decide +kernel), hTY.2 _ mAO⟩) (by decide) (by decide) (hts (.classLink RL 13 "java/lang/IllegalArgumentException") (by decide +kernel)) (va_Nw.use rfl (hTY.1.2.1 _ mIA)) hce hcv hcl ?_
      refine lv_astore (lv' := [(4, .ref q9), (0, .ref h), (1, .int a1), (2, .int a2), (3, .int a3)]) hx hb dL_tryOutcome_13 hl (by decide) rfl (fun ls hl => ?_)
      refine lv_ldc (v := (-999002)) hx hb hown (hts (.constant RL 15 (-999002)) (by decide +kernel)) dL_tryOutcome_15 ?_
      rw [hQQ]
      refine vx_ret ?_
      exact W.iret hx hb hr (end_O hO9 hP hD hS (an_1 hE)) hS.2.2 dL_tryOutcome_17
    · rcases (kx_outcome _ _ _) with k9 | k9 | k9
      · exact absurd (hE.trans k9) (by decide)
      · exact absurd (hE.trans k9) (by decide)
      · exact absurd (hE.trans k9) (by decide)
    · refine vx_catch hown [] ⟨0, 7, 8, 30⟩ [⟨0, 7, 13, 13⟩] (htb.trans rfl) (fun z hz => by cases hz) (by decide) (by decide) (hts (.classLink RL 30 "java/lang/IndexOutOfBoundsException") (by decide +kernel)) (va_Nw.use rfl (hTY.1.2.1 _ mIO)) hce hcv hcl ?_
      refine lv_astore (lv' := [(4, .ref q9), (0, .ref h), (1, .int a1), (2, .int a2), (3, .int a3)]) hx hb dL_tryOutcome_8 hl (by decide) rfl (fun ls hl => ?_)
      refine lv_ldc (v := (-999001)) hx hb hown (hts (.constant RL 32 (-999001)) (by decide +kernel)) dL_tryOutcome_10 ?_
      rw [hQQ]
      refine vx_ret ?_
      exact W.iret hx hb hr (end_O hO9 hP hD hS (an_3 hE)) hS.2.2 dL_tryOutcome_12
  · rw [hQQ]
    refine vx_ret ?_
    exact W.iret hx hb hr (end_O hO9.2 hP hD hS (an_0 hO9.1)) hS.2.2 dL_tryOutcome_7
theorem kx_bestRule (a1 : Int32) (z : Nat → Nat → Int32) : s_X11_bestRule_k a1 z = 0 ∨ s_X11_bestRule_k a1 z = 1 := by
  unfold s_X11_bestRule_k
  repeat' (first | refine k_ite (Q := (fun x : Int32 => x = 0 ∨ x = 1)) ?_ ?_ | exact (Or.inl rfl) | exact (Or.inr rfl))
abbrev rmL_tryBestRule : Room := ({ frames := 7, cells := 1, slots := 6, locals := 170 } : Room)
theorem w_bestRule (l : Launch) (G : va_G) (y : Nat → ClassId) (h : Nat) (a1 : Int32) (w : va_W) (T : List Int32) (z : Zs) (Hs : List Zs) (s0 s1 : Option Zs) (sz : Nat) (hO : OB y h T z Hs s0 s1 w) (hz : TS z) (hfl : l.stackTraces = false) : vx_Met l yL_tryBestRule wsL_tryBestRule rmL_tryBestRule (PHZ G y [.ref h, .int a1] w sz) (QO G (qBest a1 z) (fun w9 => OB y h T z Hs s0 s1 w9) (va_A w sz)) XN 1 6 (va_A w sz) := by
  refine vx_ofWH (cc := cL_tryBestRule) (maxL := 3) (ret := (some .int)) (hh := [(0, 5, 6, 13)]) (by decide) rfl ?_
  intro p e s m args below meth c s₁ B hml hv
  obtain ⟨rfl, hsz, hP, ⟨hK, hN⟩, hD0, hTY⟩ := hv
  have hx := B.exec
  have hb := B.bytes
  have hr := B.returns
  have hts := atoms_spec (ws := wsL_tryBestRule) B.pre
  have hown : s.vm.findClass RL = some m.cls := findClass_of_methodNamed B.named
  have htb : c.exceptionTable.toList = tableOf [(0, 5, 6, 13)] := vx_table (x := yL_tryBestRule) B (hts (.codeWith yL_tryBestRule cL_tryBestRule 3 (some .int) [(0, 5, 6, 13)]) (List.mem_cons_self))
  subst hsz
  have hD := hD0.self (sz := s.heap.size)
  generalize hAe : va_A w s.heap.size = A at hD hTY ⊢
  have hA : ∀ q : Nat, s.heap.size ≤ q → A q := fun q h => by rw [← hAe]; exact Or.inr h
  have hS : va_S A s.heap s.heap [] := va_S.rf
  obtain ⟨fs, he⟩ := ob_in hO
  have hl := lv_entry ([.ref h, .int a1]) (n := 3) (Nat.le_of_ble_eq_true rfl)
  rw [lg_entry_eq]
  generalize (lg_sl ([.ref h, .int a1]) ++ List.replicate (3 - (lg_sl ([.ref h, .int a1])).length) Slot.unset).toArray = ls at hl ⊢
  have hl : lv_has ls 3 [(0, .ref h), (1, .int a1)] := hl
  obtain ⟨QQ, hQQ⟩ : ∃ zq9, zq9 = vx_MQ below (QO G (qBest a1 z) (fun w9 => OB y h T z Hs s0 s1 w9) A) XN ([.ref h, .int a1] : List Value).toArray s 1 6 A := ⟨_, rfl⟩
  rw [← hQQ]
  refine lv_aload_n hx hb dL_tryBestRule_0 rfl (lv_at hl 0 rfl) ?_
  refine lv_iload_n hx hb dL_tryBestRule_1 rfl (lv_at hl 1 rfl) ?_
  refine cl_XO (vx_runV (As := [.int a1]) (rest := []) ⟨hx, hb, hml, hown, hts⟩ (x_bestRule l G y h a1 w T z Hs s0 s1 s.heap.size hO hz hfl) (cwV 1 hts gL_tryBestRule_X11_bestRule rfl rfl rfl (by decide +kernel) ⟨Nat.le_of_ble_eq_true rfl, Nat.le_of_ble_eq_true rfl⟩) (PHX_O he hP hK hN hD hTY hS (F_0 hD hS hA)) rfl rfl hl.1 rfl (lv_room (Nat.le_of_ble_eq_true rfl)) dL_tryBestRule_2 ⟨Nat.le_of_ble_eq_true rfl, Nat.le_of_ble_eq_true rfl⟩) hD hS hA (fun E ce q9 w9 H locs hE hO9 hP hD hS hce hcv hcl => ?_) (fun w9 H locs hO9 hP hD hS => ?_)
  · rcases hE with ⟨rfl, hE⟩ | ⟨rfl, hE⟩ | ⟨rfl, hE⟩
    · refine vx_catch hown [] ⟨0, 5, 6, 13⟩ [] (htb.trans rfl) (fun z hz => by cases hz) (by decide) (by decide) (hts (.classLink RL 13 "java/lang/IllegalArgumentException") (by decide +kernel)) (va_Nw.use rfl (hTY.1.2.1 _ mIA)) hce hcv hcl ?_
      refine lv_astore_n (lv' := [(2, .ref q9), (0, .ref h), (1, .int a1)]) hx hb dL_tryBestRule_6 rfl hl (by decide) rfl (fun ls hl => ?_)
      refine lv_ldc (v := (-999002)) hx hb hown (hts (.constant RL 15 (-999002)) (by decide +kernel)) dL_tryBestRule_7 ?_
      rw [hQQ]
      refine vx_ret ?_
      exact W.iret hx hb hr (end_O hO9 hP hD hS (an_1 hE)) hS.2.2 dL_tryBestRule_9
    · rcases (kx_bestRule _ _) with k9 | k9
      · exact absurd (hE.trans k9) (by decide)
      · exact absurd (hE.trans k9) (by decide)
    · rcases (kx_bestRule _ _) with k9 | k9
      · exact absurd (hE.trans k9) (by decide)
      · exact absurd (hE.trans k9) (by decide)
  · rw [hQQ]
    refine vx_ret ?_
    exact W.iret hx hb hr (end_O hO9.2 hP hD hS (an_0 hO9.1)) hS.2.2 dL_tryBestRule_5
theorem kx_settlesAfter (a1 : Int32) : s_X11_settlesAfter_k a1 = 0 ∨ s_X11_settlesAfter_k a1 = 1 := by
  unfold s_X11_settlesAfter_k
  repeat' (first | refine k_ite (Q := (fun x : Int32 => x = 0 ∨ x = 1)) ?_ ?_ | exact (Or.inl rfl) | exact (Or.inr rfl))
abbrev rmL_trySettlesAfter : Room := ({ frames := 7, cells := 1, slots := 6, locals := 125 } : Room)
theorem w_settlesAfter (l : Launch) (G : va_G) (y : Nat → ClassId) (h : Nat) (a1 : Int32) (w : va_W) (T : List Int32) (z : Zs) (Hs : List Zs) (s0 s1 : Option Zs) (sz : Nat) (hO : OB y h T z Hs s0 s1 w) (hz : TS z) (hfl : l.stackTraces = false) : vx_Met l yL_trySettlesAfter wsL_trySettlesAfter rmL_trySettlesAfter (PHZ G y [.ref h, .int a1] w sz) (QO G (qSettle a1 z) (fun w9 => OB y h T z Hs s0 s1 w9) (va_A w sz)) XN 1 6 (va_A w sz) := by
  refine vx_ofWH (cc := cL_trySettlesAfter) (maxL := 3) (ret := (some .int)) (hh := [(0, 5, 6, 13)]) (by decide) rfl ?_
  intro p e s m args below meth c s₁ B hml hv
  obtain ⟨rfl, hsz, hP, ⟨hK, hN⟩, hD0, hTY⟩ := hv
  have hx := B.exec
  have hb := B.bytes
  have hr := B.returns
  have hts := atoms_spec (ws := wsL_trySettlesAfter) B.pre
  have hown : s.vm.findClass RL = some m.cls := findClass_of_methodNamed B.named
  have htb : c.exceptionTable.toList = tableOf [(0, 5, 6, 13)] := vx_table (x := yL_trySettlesAfter) B (hts (.codeWith yL_trySettlesAfter cL_trySettlesAfter 3 (some .int) [(0, 5, 6, 13)]) (List.mem_cons_self))
  subst hsz
  have hD := hD0.self (sz := s.heap.size)
  generalize hAe : va_A w s.heap.size = A at hD hTY ⊢
  have hA : ∀ q : Nat, s.heap.size ≤ q → A q := fun q h => by rw [← hAe]; exact Or.inr h
  have hS : va_S A s.heap s.heap [] := va_S.rf
  obtain ⟨fs, he⟩ := ob_in hO
  have hl := lv_entry ([.ref h, .int a1]) (n := 3) (Nat.le_of_ble_eq_true rfl)
  rw [lg_entry_eq]
  generalize (lg_sl ([.ref h, .int a1]) ++ List.replicate (3 - (lg_sl ([.ref h, .int a1])).length) Slot.unset).toArray = ls at hl ⊢
  have hl : lv_has ls 3 [(0, .ref h), (1, .int a1)] := hl
  obtain ⟨QQ, hQQ⟩ : ∃ zq9, zq9 = vx_MQ below (QO G (qSettle a1 z) (fun w9 => OB y h T z Hs s0 s1 w9) A) XN ([.ref h, .int a1] : List Value).toArray s 1 6 A := ⟨_, rfl⟩
  rw [← hQQ]
  refine lv_aload_n hx hb dL_trySettlesAfter_0 rfl (lv_at hl 0 rfl) ?_
  refine lv_iload_n hx hb dL_trySettlesAfter_1 rfl (lv_at hl 1 rfl) ?_
  refine cl_XO (vx_runV (As := [.int a1]) (rest := []) ⟨hx, hb, hml, hown, hts⟩ (x_settlesAfter l G y h a1 w T z Hs s0 s1 s.heap.size hO hz hfl) (cwV 1 hts gL_trySettlesAfter_X11_settlesAfter rfl rfl rfl (by decide +kernel) ⟨Nat.le_of_ble_eq_true rfl, Nat.le_of_ble_eq_true rfl⟩) (PHX_O he hP hK hN hD hTY hS (F_0 hD hS hA)) rfl rfl hl.1 rfl (lv_room (Nat.le_of_ble_eq_true rfl)) dL_trySettlesAfter_2 ⟨Nat.le_of_ble_eq_true rfl, Nat.le_of_ble_eq_true rfl⟩) hD hS hA (fun E ce q9 w9 H locs hE hO9 hP hD hS hce hcv hcl => ?_) (fun w9 H locs hO9 hP hD hS => ?_)
  · rcases hE with ⟨rfl, hE⟩ | ⟨rfl, hE⟩ | ⟨rfl, hE⟩
    · refine vx_catch hown [] ⟨0, 5, 6, 13⟩ [] (htb.trans rfl) (fun z hz => by cases hz) (by decide) (by decide) (hts (.classLink RL 13 "java/lang/IllegalArgumentException") (by decide +kernel)) (va_Nw.use rfl (hTY.1.2.1 _ mIA)) hce hcv hcl ?_
      refine lv_astore_n (lv' := [(2, .ref q9), (0, .ref h), (1, .int a1)]) hx hb dL_trySettlesAfter_6 rfl hl (by decide) rfl (fun ls hl => ?_)
      refine lv_ldc (v := (-999002)) hx hb hown (hts (.constant RL 15 (-999002)) (by decide +kernel)) dL_trySettlesAfter_7 ?_
      rw [hQQ]
      refine vx_ret ?_
      exact W.iret hx hb hr (end_O hO9 hP hD hS (an_1 hE)) hS.2.2 dL_trySettlesAfter_9
    · rcases (kx_settlesAfter _) with k9 | k9
      · exact absurd (hE.trans k9) (by decide)
      · exact absurd (hE.trans k9) (by decide)
    · rcases (kx_settlesAfter _) with k9 | k9
      · exact absurd (hE.trans k9) (by decide)
      · exact absurd (hE.trans k9) (by decide)
  · rw [hQQ]
    refine vx_ret ?_
    exact W.iret hx hb hr (end_O hO9.2 hP hD hS (an_0 hO9.1)) hS.2.2 dL_trySettlesAfter_5
theorem kx_runScript (a1 : Int32) (a2 : Int64) : s_X11_runScript_k a1 a2 = 0 ∨ s_X11_runScript_k a1 a2 = 1 := by
  unfold s_X11_runScript_k
  repeat' (first | refine k_ite (Q := (fun x : Int32 => x = 0 ∨ x = 1)) ?_ ?_ | exact (Or.inl rfl) | exact (Or.inr rfl))
abbrev rmL_tryScript : Room := ({ frames := 8, cells := 1, slots := 6, locals := 191 } : Room)
theorem w_runScript (l : Launch) (G : va_G) (y : Nat → ClassId) (h : Nat) (a1 : Int32) (a2 : Int64) (w : va_W) (T : List Int32) (z : Zs) (Hs : List Zs) (s0 s1 : Option Zs) (sz : Nat) (hO : OB y h T z Hs s0 s1 w) (hz : TS z) (hfl : l.stackTraces = false) : vx_Met l yL_tryScript wsL_tryScript rmL_tryScript (PHZ G y [.ref h, .int a1, .long a2] w sz) (QO G (qScript a1 a2 z) (fun w9 => OB y h T z Hs s0 s1 w9) (va_A w sz)) XN 1 6 (va_A w sz) := by
  refine vx_ofWH (cc := cL_tryScript) (maxL := 5) (ret := (some .int)) (hh := [(0, 6, 7, 13)]) (by decide) rfl ?_
  intro p e s m args below meth c s₁ B hml hv
  obtain ⟨rfl, hsz, hP, ⟨hK, hN⟩, hD0, hTY⟩ := hv
  have hx := B.exec
  have hb := B.bytes
  have hr := B.returns
  have hts := atoms_spec (ws := wsL_tryScript) B.pre
  have hown : s.vm.findClass RL = some m.cls := findClass_of_methodNamed B.named
  have htb : c.exceptionTable.toList = tableOf [(0, 6, 7, 13)] := vx_table (x := yL_tryScript) B (hts (.codeWith yL_tryScript cL_tryScript 5 (some .int) [(0, 6, 7, 13)]) (List.mem_cons_self))
  subst hsz
  have hD := hD0.self (sz := s.heap.size)
  generalize hAe : va_A w s.heap.size = A at hD hTY ⊢
  have hA : ∀ q : Nat, s.heap.size ≤ q → A q := fun q h => by rw [← hAe]; exact Or.inr h
  have hS : va_S A s.heap s.heap [] := va_S.rf
  obtain ⟨fs, he⟩ := ob_in hO
  have hl := lv_entry ([.ref h, .int a1, .long a2]) (n := 5) (Nat.le_of_ble_eq_true rfl)
  rw [lg_entry_eq]
  generalize (lg_sl ([.ref h, .int a1, .long a2]) ++ List.replicate (5 - (lg_sl ([.ref h, .int a1, .long a2])).length) Slot.unset).toArray = ls at hl ⊢
  have hl : lv_has ls 5 [(0, .ref h), (1, .int a1), (2, .long a2)] := hl
  obtain ⟨QQ, hQQ⟩ : ∃ zq9, zq9 = vx_MQ below (QO G (qScript a1 a2 z) (fun w9 => OB y h T z Hs s0 s1 w9) A) XN ([.ref h, .int a1, .long a2] : List Value).toArray s 1 6 A := ⟨_, rfl⟩
  rw [← hQQ]
  refine lv_aload_n hx hb dL_tryScript_0 rfl (lv_at hl 0 rfl) ?_
  refine lv_iload_n hx hb dL_tryScript_1 rfl (lv_at hl 1 rfl) ?_
  refine lv_lload_n hx hb dL_tryScript_2 rfl (lv_at hl 2 rfl) ?_
  refine cl_XO (vx_runV (As := [.int a1, .long a2]) (rest := []) ⟨hx, hb, hml, hown, hts⟩ (x_runScript l G y h a1 a2 w T z Hs s0 s1 s.heap.size hO hz hfl) (cwV 2 hts gL_tryScript_X11_runScript rfl rfl rfl (by decide +kernel) ⟨Nat.le_of_ble_eq_true rfl, Nat.le_of_ble_eq_true rfl⟩) (PHX_O he hP hK hN hD hTY hS (F_0 hD hS hA)) rfl rfl hl.1 rfl (lv_room (Nat.le_of_ble_eq_true rfl)) dL_tryScript_3 ⟨Nat.le_of_ble_eq_true rfl, Nat.le_of_ble_eq_true rfl⟩) hD hS hA (fun E ce q9 w9 H locs hE hO9 hP hD hS hce hcv hcl => ?_) (fun w9 H locs hO9 hP hD hS => ?_)
  · rcases hE with ⟨rfl, hE⟩ | ⟨rfl, hE⟩ | ⟨rfl, hE⟩
    · refine vx_catch hown [] ⟨0, 6, 7, 13⟩ [] (htb.trans rfl) (fun z hz => by cases hz) (by decide) (by decide) (hts (.classLink RL 13 "java/lang/IllegalArgumentException") (by decide +kernel)) (va_Nw.use rfl (hTY.1.2.1 _ mIA)) hce hcv hcl ?_
      refine lv_astore (lv' := [(4, .ref q9), (0, .ref h), (1, .int a1), (2, .long a2)]) hx hb dL_tryScript_7 hl (by decide) rfl (fun ls hl => ?_)
      refine lv_ldc (v := (-999002)) hx hb hown (hts (.constant RL 15 (-999002)) (by decide +kernel)) dL_tryScript_9 ?_
      rw [hQQ]
      refine vx_ret ?_
      exact W.iret hx hb hr (end_O hO9 hP hD hS (an_1 hE)) hS.2.2 dL_tryScript_11
    · rcases (kx_runScript _ _) with k9 | k9
      · exact absurd (hE.trans k9) (by decide)
      · exact absurd (hE.trans k9) (by decide)
    · rcases (kx_runScript _ _) with k9 | k9
      · exact absurd (hE.trans k9) (by decide)
      · exact absurd (hE.trans k9) (by decide)
  · rw [hQQ]
    refine vx_ret ?_
    exact W.iret hx hb hr (end_O hO9.2 hP hD hS (an_0 hO9.1)) hS.2.2 dL_tryScript_6
theorem kx_simulate (a2 : Int32) : s_X11_simulate_k a2 = 0 ∨ s_X11_simulate_k a2 = 1 := by
  unfold s_X11_simulate_k
  repeat' (first | refine k_ite (Q := (fun x : Int32 => x = 0 ∨ x = 1)) ?_ ?_ | exact (Or.inl rfl) | exact (Or.inr rfl))
abbrev rmL_trySimulate : Room := ({ frames := 7, cells := 1, slots := 6, locals := 141 } : Room)
theorem w_simulate (l : Launch) (G : va_G) (y : Nat → ClassId) (h : Nat) (a1 : Int64) (a2 : Int32) (w : va_W) (T : List Int32) (z : Zs) (Hs : List Zs) (s0 s1 : Option Zs) (sz : Nat) (hO : OB y h T z Hs s0 s1 w) (hz : TS z) (hfl : l.stackTraces = false) : vx_Met l yL_trySimulate wsL_trySimulate rmL_trySimulate (PHZ G y [.ref h, .long a1, .int a2] w sz) (QO G (qSim a1 a2 z) (fun w9 => OB y h T z Hs s0 s1 w9) (va_A w sz)) XN 1 6 (va_A w sz) := by
  refine vx_ofWH (cc := cL_trySimulate) (maxL := 5) (ret := (some .int)) (hh := [(0, 6, 7, 13)]) (by decide) rfl ?_
  intro p e s m args below meth c s₁ B hml hv
  obtain ⟨rfl, hsz, hP, ⟨hK, hN⟩, hD0, hTY⟩ := hv
  have hx := B.exec
  have hb := B.bytes
  have hr := B.returns
  have hts := atoms_spec (ws := wsL_trySimulate) B.pre
  have hown : s.vm.findClass RL = some m.cls := findClass_of_methodNamed B.named
  have htb : c.exceptionTable.toList = tableOf [(0, 6, 7, 13)] := vx_table (x := yL_trySimulate) B (hts (.codeWith yL_trySimulate cL_trySimulate 5 (some .int) [(0, 6, 7, 13)]) (List.mem_cons_self))
  subst hsz
  have hD := hD0.self (sz := s.heap.size)
  generalize hAe : va_A w s.heap.size = A at hD hTY ⊢
  have hA : ∀ q : Nat, s.heap.size ≤ q → A q := fun q h => by rw [← hAe]; exact Or.inr h
  have hS : va_S A s.heap s.heap [] := va_S.rf
  obtain ⟨fs, he⟩ := ob_in hO
  have hl := lv_entry ([.ref h, .long a1, .int a2]) (n := 5) (Nat.le_of_ble_eq_true rfl)
  rw [lg_entry_eq]
  generalize (lg_sl ([.ref h, .long a1, .int a2]) ++ List.replicate (5 - (lg_sl ([.ref h, .long a1, .int a2])).length) Slot.unset).toArray = ls at hl ⊢
  have hl : lv_has ls 5 [(0, .ref h), (1, .long a1), (3, .int a2)] := hl
  obtain ⟨QQ, hQQ⟩ : ∃ zq9, zq9 = vx_MQ below (QO G (qSim a1 a2 z) (fun w9 => OB y h T z Hs s0 s1 w9) A) XN ([.ref h, .long a1, .int a2] : List Value).toArray s 1 6 A := ⟨_, rfl⟩
  rw [← hQQ]
  refine lv_aload_n hx hb dL_trySimulate_0 rfl (lv_at hl 0 rfl) ?_
  refine lv_lload_n hx hb dL_trySimulate_1 rfl (lv_at hl 1 rfl) ?_
  refine lv_iload_n hx hb dL_trySimulate_2 rfl (lv_at hl 2 rfl) ?_
  refine cl_XO (vx_runV (As := [.long a1, .int a2]) (rest := []) ⟨hx, hb, hml, hown, hts⟩ (x_simulate l G y h a1 a2 w T z Hs s0 s1 s.heap.size hO hz hfl) (cwV 2 hts gL_trySimulate_X11_simulate rfl rfl rfl (by decide +kernel) ⟨Nat.le_of_ble_eq_true rfl, Nat.le_of_ble_eq_true rfl⟩) (PHX_O he hP hK hN hD hTY hS (F_0 hD hS hA)) rfl rfl hl.1 rfl (lv_room (Nat.le_of_ble_eq_true rfl)) dL_trySimulate_3 ⟨Nat.le_of_ble_eq_true rfl, Nat.le_of_ble_eq_true rfl⟩) hD hS hA (fun E ce q9 w9 H locs hE hO9 hP hD hS hce hcv hcl => ?_) (fun w9 H locs hO9 hP hD hS => ?_)
  · rcases hE with ⟨rfl, hE⟩ | ⟨rfl, hE⟩ | ⟨rfl, hE⟩
    · refine vx_catch hown [] ⟨0, 6, 7, 13⟩ [] (htb.trans rfl) (fun z hz => by cases hz) (by decide) (by decide) (hts (.classLink RL 13 "java/lang/IllegalArgumentException") (by decide +kernel)) (va_Nw.use rfl (hTY.1.2.1 _ mIA)) hce hcv hcl ?_
      refine lv_astore (lv' := [(4, .ref q9), (0, .ref h), (1, .long a1), (3, .int a2)]) hx hb dL_trySimulate_7 hl (by decide) rfl (fun ls hl => ?_)
      refine lv_ldc (v := (-999002)) hx hb hown (hts (.constant RL 15 (-999002)) (by decide +kernel)) dL_trySimulate_9 ?_
      rw [hQQ]
      refine vx_ret ?_
      exact W.iret hx hb hr (end_O hO9 hP hD hS (an_1 hE)) hS.2.2 dL_trySimulate_11
    · rcases (kx_simulate _) with k9 | k9
      · exact absurd (hE.trans k9) (by decide)
      · exact absurd (hE.trans k9) (by decide)
    · rcases (kx_simulate _) with k9 | k9
      · exact absurd (hE.trans k9) (by decide)
      · exact absurd (hE.trans k9) (by decide)
  · rw [hQQ]
    refine vx_ret ?_
    exact W.iret hx hb hr (end_O hO9.2 hP hD hS (an_0 hO9.1)) hS.2.2 dL_trySimulate_6
